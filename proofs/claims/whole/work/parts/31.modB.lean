/-- a row of 64, its places above k pushed on by one -/
def shf (f : Nat → Int32) (k : Nat) : Nat → Int32 := fun j => if k < j ∧ j ≤ 63 then f (j - 1) else f j
theorem shf_63 {mm : Nat → Nat → Int32} {a : Nat} : va_up mm a (shf (mm a) 63) = mm := by
  funext i j
  by_cases h : i = a
  · subst h
    rw [va_up_self]
    unfold shf
    rw [if_neg (by omega)]
  · rw [va_up_ne _ _ h]
theorem shf_st (mm : Nat → Nat → Int32) (a : Nat) {k : Nat} (hk : k < 63) : va_up (va_up mm a (shf (mm a) (k + 1))) a (upd ((va_up mm a (shf (mm a) (k + 1))) a) (k + 1) ((va_up mm a (shf (mm a) (k + 1))) a k)) = va_up mm a (shf (mm a) k) := by
  rw [bx_uu, va_up_self]
  congr 1
  funext j
  unfold upd shf
  by_cases h : j = k + 1
  · subst h
    rw [if_pos rfl, if_neg (by omega), if_pos (by omega)]
    rfl
  · rw [if_neg h]
    by_cases h2 : k + 1 < j ∧ j ≤ 63
    · rw [if_pos h2, if_pos (by omega)]
    · rw [if_neg h2, if_neg (by omega)]
theorem lp_X3_device {p : Program} {l : Launch} {e : Env} {R : Room} {s : State} {m : MethodId} {args : Array Value} {below : List Frame} {meth : Method} {c : Code} {A : Nat → Prop} {Q : State → Prop} {Ts : List Cond} {cells slots : Nat} (X : CallFix p m c cX3_device 4 s args Ts RX3) (hT : ∀ w ∈ TB, w ∈ Ts) (D : va_G) (cI : ClassId) (q : Nat → Nat) (g : Nat → Int32) (mm : Nat → Nat → Int32) (x1 x2 : Int32)
    (K : ∀ (ls : Array Slot) (H : Heap) (locs : List Loc), lv_has ls 4 [(3, .int (nI 0)), (2, .int x2), (1, .int x1), (0, .ref (q 0))] → ZZ D cI (mw q cI g (va_up mm 3 (shf (mm 3) 0))) A s H locs → W p l e R s m args below meth c H locs cells slots Q (F0 m 222 ls [])) :
    ∀ (k : Nat), k ≤ 63 → ∀ (ls : Array Slot) (H : Heap) (locs : List Loc), lv_has ls 4 [(3, .int (nI k)), (2, .int x2), (1, .int x1), (0, .ref (q 0))] → ZZ D cI (mw q cI g (va_up mm 3 (shf (mm 3) k))) A s H locs → W p l e R s m args below meth c H locs cells slots Q (F0 m 198 ls []) := by
  intro k
  induction k with
  | zero =>
    intro _ ls H locs hl Z
    refine lv_iload_n X.1 X.2.1 dX3_device_198 rfl (lv_at hl 0 rfl) ?_
    refine lv_if_le (tgt := 222) X.1 X.2.1 dX3_device_199 (by decide) (fun _ => ?_) (fun c_1 => absurd (by decide) c_1)
    exact K ls H locs hl Z
  | succ k ih =>
    intro hk ls H locs hl Z
    refine lv_iload_n X.1 X.2.1 dX3_device_198 rfl (lv_at hl 0 rfl) ?_
    refine lv_if_le (tgt := 222) X.1 X.2.1 dX3_device_199 (by decide) (fun c_1 => absurd c_1 (nI_nle (by omega) (by omega))) (fun _ => ?_)
    refine lv_aload_n X.1 X.2.1 dX3_device_202 rfl (lv_at hl 3 rfl) ?_
    refine G_X3_out X hT Z dX3_device_203 ?_
    refine lv_iload_n X.1 X.2.1 dX3_device_206 rfl (lv_at hl 0 rfl) ?_
    refine lv_aload_n X.1 X.2.1 dX3_device_207 rfl (lv_at hl 3 rfl) ?_
    refine G_X3_out X hT Z dX3_device_208 ?_
    refine lv_iload_n X.1 X.2.1 dX3_device_211 rfl (lv_at hl 0 rfl) ?_
    refine lv_iconst (v := 1) X.1 X.2.1 dX3_device_212 (by decide) ?_
    refine lv_isub X.1 X.2.1 dX3_device_213 ?_
    refine L_X3_out (j := k) X Z (by rw [nI_pred]; exact vp_in_nI (by omega) (by decide)) (by rw [nI_pred]; exact nI_clamp (by omega)) dX3_device_214 ?_
    refine S_X3_out (j := k + 1) X Z (vp_in_nI (by omega) (by decide)) (nI_clamp (by omega)) dX3_device_215 (fun H locs Z => ?_)
    refine lv_iinc (v := nI k) (lv' := [(3, .int (nI k)), (2, .int x2), (1, .int x1), (0, .ref (q 0))]) X.1 X.2.1 dX3_device_216 hl (k := 0) rfl (pk_m1 k) (by decide) rfl (fun ls hl => ?_)
    refine lv_goto (tgt := 198) X.1 X.2.1 dX3_device_219 (by decide) ?_
    rw [shf_st mm 3 (by omega)] at Z
    exact ih (by omega) ls H locs hl Z
theorem lp_X3_step {p : Program} {l : Launch} {e : Env} {R : Room} {s : State} {m : MethodId} {args : Array Value} {below : List Frame} {meth : Method} {c : Code} {A : Nat → Prop} {Q : State → Prop} {Ts : List Cond} {cells slots : Nat} (X : CallFix p m c cX3_step 5 s args Ts RX3) (hT : ∀ w ∈ TB, w ∈ Ts) (D : va_G) (cI : ClassId) (q : Nat → Nat) (g : Nat → Int32) (mm : Nat → Nat → Int32) (x1 x2 : Int32)
    (K : ∀ (ls : Array Slot) (H : Heap) (locs : List Loc), lv_has ls 5 [(3, .int (nI 0)), (2, .int x2), (1, .int x1), (0, .ref (q 0))] → ZZ D cI (mw q cI g (va_up mm 4 (shf (mm 4) 0))) A s H locs → W p l e R s m args below meth c H locs cells slots Q (F0 m 141 ls [])) :
    ∀ (k : Nat), k ≤ 63 → ∀ (ls : Array Slot) (H : Heap) (locs : List Loc), lv_has ls 5 [(3, .int (nI k)), (2, .int x2), (1, .int x1), (0, .ref (q 0))] → ZZ D cI (mw q cI g (va_up mm 4 (shf (mm 4) k))) A s H locs → W p l e R s m args below meth c H locs cells slots Q (F0 m 117 ls []) := by
  intro k
  induction k with
  | zero =>
    intro _ ls H locs hl Z
    refine lv_iload_n X.1 X.2.1 dX3_step_117 rfl (lv_at hl 0 rfl) ?_
    refine lv_if_le (tgt := 141) X.1 X.2.1 dX3_step_118 (by decide) (fun _ => ?_) (fun c_1 => absurd (by decide) c_1)
    exact K ls H locs hl Z
  | succ k ih =>
    intro hk ls H locs hl Z
    refine lv_iload_n X.1 X.2.1 dX3_step_117 rfl (lv_at hl 0 rfl) ?_
    refine lv_if_le (tgt := 141) X.1 X.2.1 dX3_step_118 (by decide) (fun c_1 => absurd c_1 (nI_nle (by omega) (by omega))) (fun _ => ?_)
    refine lv_aload_n X.1 X.2.1 dX3_step_121 rfl (lv_at hl 3 rfl) ?_
    refine G_X3_places X hT Z dX3_step_122 ?_
    refine lv_iload_n X.1 X.2.1 dX3_step_125 rfl (lv_at hl 0 rfl) ?_
    refine lv_aload_n X.1 X.2.1 dX3_step_126 rfl (lv_at hl 3 rfl) ?_
    refine G_X3_places X hT Z dX3_step_127 ?_
    refine lv_iload_n X.1 X.2.1 dX3_step_130 rfl (lv_at hl 0 rfl) ?_
    refine lv_iconst (v := 1) X.1 X.2.1 dX3_step_131 (by decide) ?_
    refine lv_isub X.1 X.2.1 dX3_step_132 ?_
    refine L_X3_places (j := k) X Z (by rw [nI_pred]; exact vp_in_nI (by omega) (by decide)) (by rw [nI_pred]; exact nI_clamp (by omega)) dX3_step_133 ?_
    refine S_X3_places (j := k + 1) X Z (vp_in_nI (by omega) (by decide)) (nI_clamp (by omega)) dX3_step_134 (fun H locs Z => ?_)
    refine lv_iinc (v := nI k) (lv' := [(3, .int (nI k)), (2, .int x2), (1, .int x1), (0, .ref (q 0))]) X.1 X.2.1 dX3_step_135 hl (k := 0) rfl (pk_m1 k) (by decide) rfl (fun ls hl => ?_)
    refine lv_goto (tgt := 117) X.1 X.2.1 dX3_step_138 (by decide) ?_
    rw [shf_st mm 4 (by omega)] at Z
    exact ih (by omega) ls H locs hl Z
def uX3_device_j19_mm (mm : Nat → Nat → Int32) (a1 : Int32) : Nat → Nat → Int32 := if (a1 - 3072) = 1 then ((va_up mm 1 (upd (mm 1) 6 1))) else (mm)
def uX3_device_j39_mm (a1 : Int32) (j19_mm : Nat → Nat → Int32) : Nat → Nat → Int32 := if (a1 - 3072) = 2 then ((va_up (va_up j19_mm 1 (upd (j19_mm 1) 5 0)) 1 (upd ((va_up j19_mm 1 (upd (j19_mm 1) 5 0)) 1) 6 0))) else (j19_mm)
def uX3_device_j53_mm (a1 : Int32) (j39_mm : Nat → Nat → Int32) : Nat → Nat → Int32 := if (a1 - 3072) = 24 then ((va_up j39_mm 1 (upd (j39_mm 1) 7 0))) else (j39_mm)
def uX3_device_j74_g (g : Nat → Int32) (a1 : Int32) (j53_mm : Nat → Nat → Int32) : Nat → Int32 := if (a1 - 3072) = 25 then (if (j53_mm 1 7) = 1 then ((gX3_skip g j53_mm)) else (g)) else (g)
def uX3_device_j74_mm (g : Nat → Int32) (a1 : Int32) (j53_mm : Nat → Nat → Int32) : Nat → Nat → Int32 := if (a1 - 3072) = 25 then (if (j53_mm 1 7) = 1 then ((mX3_skip g j53_mm)) else (j53_mm)) else (j53_mm)
def uX3_device_j87_mm (a1 : Int32) (j74_mm : Nat → Nat → Int32) : Nat → Nat → Int32 := if (a1 - 3072) = 26 then ((va_up j74_mm 1 (upd (j74_mm 1) 0 0))) else (j74_mm)
def uX3_device_j113_mm (a1 : Int32) (j87_mm : Nat → Nat → Int32) : Nat → Nat → Int32 := if (a1 - 3072) = 28 then ((va_up j87_mm 1 (upd (j87_mm 1) 0 ((j87_mm 1 0) ||| (j87_mm 1 8))))) else (j87_mm)
def uX3_device_j132_mm (a1 : Int32) (j113_mm : Nat → Nat → Int32) : Nat → Nat → Int32 := if (a1 - 3072) = 30 then ((va_up j113_mm 1 (upd (j113_mm 1) 0 (j113_mm 1 8)))) else (j113_mm)
def uX3_device_j148_g (a1 : Int32) (j74_g : Nat → Int32) (j132_mm : Nat → Nat → Int32) : Nat → Int32 := if (a1 - 3072) = 26 then ((gX3_advance j74_g j132_mm)) else (if (a1 - 3072) = 30 then ((gX3_advance j74_g j132_mm)) else (j74_g))
def uX3_device_j148_mm (a1 : Int32) (j74_g : Nat → Int32) (j132_mm : Nat → Nat → Int32) : Nat → Nat → Int32 := if (a1 - 3072) = 26 then ((mX3_advance j74_g j132_mm)) else (if (a1 - 3072) = 30 then ((mX3_advance j74_g j132_mm)) else (j132_mm))
def uX3_device_j169_g (a1 : Int32) (j148_g : Nat → Int32) (j148_mm : Nat → Nat → Int32) : Nat → Int32 := if (a1 - 3072) = 33 then (if (j148_mm 1 9) = 1 then ((gX3_skip j148_g j148_mm)) else (j148_g)) else (j148_g)
def uX3_device_j169_mm (a1 : Int32) (j148_g : Nat → Int32) (j148_mm : Nat → Nat → Int32) : Nat → Nat → Int32 := if (a1 - 3072) = 33 then (if (j148_mm 1 9) = 1 then ((mX3_skip j148_g j148_mm)) else (j148_mm)) else (j148_mm)
def uX3_device_j183_mm (a1 : Int32) (j169_mm : Nat → Nat → Int32) : Nat → Nat → Int32 := if (a1 - 3072) = 34 then ((va_up j169_mm 1 (upd (j169_mm 1) 9 0))) else (j169_mm)
def uX3_device_j256_g (a1 : Int32) (j169_g : Nat → Int32) : Nat → Int32 := if (a1 - 3072) = 36 then ((upd j169_g 2 ((j169_g 2) + 1))) else (if (a1 - 3072) = 38 then ((upd j169_g 2 ((j169_g 2) + 1))) else (j169_g))
def uX3_device_j256_mm (a1 : Int32) (j183_mm : Nat → Nat → Int32) : Nat → Nat → Int32 := if (a1 - 3072) = 36 then ((va_up (va_up (va_up j183_mm 3 (shf (j183_mm 3) 0)) 3 (upd ((va_up j183_mm 3 (shf (j183_mm 3) 0)) 3) 0 (((va_up j183_mm 3 (shf (j183_mm 3) 0)) 1 0) - ((va_up j183_mm 3 (shf (j183_mm 3) 0)) 1 0) / 256 * 256))) 1 (upd ((va_up (va_up j183_mm 3 (shf (j183_mm 3) 0)) 3 (upd ((va_up j183_mm 3 (shf (j183_mm 3) 0)) 3) 0 (((va_up j183_mm 3 (shf (j183_mm 3) 0)) 1 0) - ((va_up j183_mm 3 (shf (j183_mm 3) 0)) 1 0) / 256 * 256))) 1) 9 1))) else (if (a1 - 3072) = 38 then ((va_up (va_up (va_up j183_mm 3 (shf (j183_mm 3) 0)) 3 (upd ((va_up j183_mm 3 (shf (j183_mm 3) 0)) 3) 0 (((va_up j183_mm 3 (shf (j183_mm 3) 0)) 1 0) - ((va_up j183_mm 3 (shf (j183_mm 3) 0)) 1 0) / 256 * 256))) 1 (upd ((va_up (va_up j183_mm 3 (shf (j183_mm 3) 0)) 3 (upd ((va_up j183_mm 3 (shf (j183_mm 3) 0)) 3) 0 (((va_up j183_mm 3 (shf (j183_mm 3) 0)) 1 0) - ((va_up j183_mm 3 (shf (j183_mm 3) 0)) 1 0) / 256 * 256))) 1) 9 1))) else (j183_mm))
def gX3_device (g : Nat → Int32) (mm : Nat → Nat → Int32) (a1 : Int32) : Nat → Int32 := let j19_mm : Nat → Nat → Int32 := uX3_device_j19_mm mm a1; let j39_mm : Nat → Nat → Int32 := uX3_device_j39_mm a1 j19_mm; let j53_mm : Nat → Nat → Int32 := uX3_device_j53_mm a1 j39_mm; let j74_g : Nat → Int32 := uX3_device_j74_g g a1 j53_mm; let j74_mm : Nat → Nat → Int32 := uX3_device_j74_mm g a1 j53_mm; let j87_mm : Nat → Nat → Int32 := uX3_device_j87_mm a1 j74_mm; let j113_mm : Nat → Nat → Int32 := uX3_device_j113_mm a1 j87_mm; let j132_mm : Nat → Nat → Int32 := uX3_device_j132_mm a1 j113_mm; let j148_g : Nat → Int32 := uX3_device_j148_g a1 j74_g j132_mm; let j148_mm : Nat → Nat → Int32 := uX3_device_j148_mm a1 j74_g j132_mm; let j169_g : Nat → Int32 := uX3_device_j169_g a1 j148_g j148_mm; let j256_g : Nat → Int32 := uX3_device_j256_g a1 j169_g; j256_g
def mX3_device (g : Nat → Int32) (mm : Nat → Nat → Int32) (a1 : Int32) : Nat → Nat → Int32 := let j19_mm : Nat → Nat → Int32 := uX3_device_j19_mm mm a1; let j39_mm : Nat → Nat → Int32 := uX3_device_j39_mm a1 j19_mm; let j53_mm : Nat → Nat → Int32 := uX3_device_j53_mm a1 j39_mm; let j74_g : Nat → Int32 := uX3_device_j74_g g a1 j53_mm; let j74_mm : Nat → Nat → Int32 := uX3_device_j74_mm g a1 j53_mm; let j87_mm : Nat → Nat → Int32 := uX3_device_j87_mm a1 j74_mm; let j113_mm : Nat → Nat → Int32 := uX3_device_j113_mm a1 j87_mm; let j132_mm : Nat → Nat → Int32 := uX3_device_j132_mm a1 j113_mm; let j148_g : Nat → Int32 := uX3_device_j148_g a1 j74_g j132_mm; let j148_mm : Nat → Nat → Int32 := uX3_device_j148_mm a1 j74_g j132_mm; let j169_mm : Nat → Nat → Int32 := uX3_device_j169_mm a1 j148_g j148_mm; let j183_mm : Nat → Nat → Int32 := uX3_device_j183_mm a1 j169_mm; let j256_mm : Nat → Nat → Int32 := uX3_device_j256_mm a1 j183_mm; j256_mm
theorem ma_74 {g : Nat → Int32} {a1 : Int32} {jm : Nat → Nat → Int32} (h : Ma g) : Ma (uX3_device_j74_g g a1 jm) := by
  unfold uX3_device_j74_g
  repeat' split
  all_goals exact h
set_option maxRecDepth 20000 in
set_option maxHeartbeats 4000000 in
theorem c_X3_device (l : Launch) (D : va_G) (cI : ClassId) (q : Nat → Nat) (g : Nat → Int32) (mm : Nat → Nat → Int32) (a1 : Int32) (ha : Ma g) : MI l D cI yX3_device (.code yX3_device cX3_device 4 none) ({ frames := 2, cells := 0, slots := 0, locals := 40 } : Room) [.ref (q 0), .int a1] (mw q cI g mm) (mw q cI (gX3_device g mm a1) (mX3_device g mm a1)) none := by
  refine MI.ofV (own := RX3) (by decide) rfl (Nat.le_of_ble_eq_true rfl) ?_
  intro p e s m args below meth c A ls Q X Z hl hret
  have hT : ∀ w ∈ TB, w ∈ (Cond.code yX3_device cX3_device 4 none :: TB) := fun _ h => List.mem_cons_of_mem _ h
  have hl : lv_has ls 4 [(0, .ref (q 0)), (1, .int a1)] := hl
  refine lv_iload_n X.1 X.2.1 dX3_device_0 rfl (lv_at hl 1 rfl) ?_
  refine lv_sipush (v := 3072) X.1 X.2.1 dX3_device_1 (by decide) ?_
  refine lv_isub X.1 X.2.1 dX3_device_4 ?_
  refine lv_istore_n (lv' := [(2, .int (a1 - 3072)), (0, .ref (q 0)), (1, .int a1)]) X.1 X.2.1 dX3_device_5 rfl hl (by decide) rfl (fun ls hl => ?_)
  refine lv_iload_n X.1 X.2.1 dX3_device_6 rfl (lv_at hl 0 rfl) ?_
  refine lv_iconst (v := 1) X.1 X.2.1 dX3_device_7 (by decide) ?_
  suffices K_19 : ∀ (j19_mm : Nat → Nat → Int32) (ls : Array Slot) (H : Heap) (locs : List Loc), j19_mm = uX3_device_j19_mm mm a1 → lv_has ls 4 [(2, .int (a1 - 3072)), (0, .ref (q 0)), (1, .int a1)] → ZZ D cI (mw q cI g j19_mm) A s H locs → W p l e ({ frames := 2, cells := 0, slots := 0, locals := 40 } : Room) s m args below meth c H locs 0 0 Q (F0 m 19 ls []) by
    refine lv_icmp_ne (tgt := 19) X.1 X.2.1 dX3_device_8 (by decide) (fun c_8 => ?_) (fun c_8 => ?_)
    · exact K_19 mm _ _ _ (if_neg c_8).symm (lv_sub hl [0, 1, 2] rfl) Z
    · refine lv_aload_n X.1 X.2.1 dX3_device_11 rfl (lv_at hl 1 rfl) ?_
      refine G_X3_r X hT Z dX3_device_12 ?_
      refine lv_bipush (v := 6) X.1 X.2.1 dX3_device_15 (by decide) ?_
      refine lv_iconst (v := 1) X.1 X.2.1 dX3_device_17 (by decide) ?_
      refine S_X3_r (j := 6) X Z (vin_c (by decide)) (by decide) dX3_device_18 (fun H locs Z => ?_)
      exact K_19 (va_up mm 1 (upd (mm 1) 6 1)) _ _ _ (if_pos c_8).symm (lv_sub hl [0, 1, 2] rfl) Z
  intro j19_mm ls H locs e_j19_mm hl Z
  refine lv_iload_n X.1 X.2.1 dX3_device_19 rfl (lv_at hl 0 rfl) ?_
  refine lv_iconst (v := 2) X.1 X.2.1 dX3_device_20 (by decide) ?_
  suffices K_39 : ∀ (j39_mm : Nat → Nat → Int32) (ls : Array Slot) (H : Heap) (locs : List Loc), j39_mm = uX3_device_j39_mm a1 j19_mm → lv_has ls 4 [(2, .int (a1 - 3072)), (0, .ref (q 0)), (1, .int a1)] → ZZ D cI (mw q cI g j39_mm) A s H locs → W p l e ({ frames := 2, cells := 0, slots := 0, locals := 40 } : Room) s m args below meth c H locs 0 0 Q (F0 m 39 ls []) by
    refine lv_icmp_ne (tgt := 39) X.1 X.2.1 dX3_device_21 (by decide) (fun c_21 => ?_) (fun c_21 => ?_)
    · exact K_39 j19_mm _ _ _ (if_neg c_21).symm (lv_sub hl [0, 1, 2] rfl) Z
    · refine lv_aload_n X.1 X.2.1 dX3_device_24 rfl (lv_at hl 1 rfl) ?_
      refine G_X3_r X hT Z dX3_device_25 ?_
      refine lv_iconst (v := 5) X.1 X.2.1 dX3_device_28 (by decide) ?_
      refine lv_iconst (v := 0) X.1 X.2.1 dX3_device_29 (by decide) ?_
      refine S_X3_r (j := 5) X Z (vin_c (by decide)) (by decide) dX3_device_30 (fun H locs Z => ?_)
      refine lv_aload_n X.1 X.2.1 dX3_device_31 rfl (lv_at hl 1 rfl) ?_
      refine G_X3_r X hT Z dX3_device_32 ?_
      refine lv_bipush (v := 6) X.1 X.2.1 dX3_device_35 (by decide) ?_
      refine lv_iconst (v := 0) X.1 X.2.1 dX3_device_37 (by decide) ?_
      refine S_X3_r (j := 6) X Z (vin_c (by decide)) (by decide) dX3_device_38 (fun H locs Z => ?_)
      exact K_39 (va_up (va_up j19_mm 1 (upd (j19_mm 1) 5 0)) 1 (upd ((va_up j19_mm 1 (upd (j19_mm 1) 5 0)) 1) 6 0)) _ _ _ (if_pos c_21).symm (lv_sub hl [0, 1, 2] rfl) Z
  intro j39_mm ls H locs e_j39_mm hl Z
  refine lv_iload_n X.1 X.2.1 dX3_device_39 rfl (lv_at hl 0 rfl) ?_
  refine lv_bipush (v := 24) X.1 X.2.1 dX3_device_40 (by decide) ?_
  suffices K_53 : ∀ (j53_mm : Nat → Nat → Int32) (ls : Array Slot) (H : Heap) (locs : List Loc), j53_mm = uX3_device_j53_mm a1 j39_mm → lv_has ls 4 [(2, .int (a1 - 3072)), (0, .ref (q 0)), (1, .int a1)] → ZZ D cI (mw q cI g j53_mm) A s H locs → W p l e ({ frames := 2, cells := 0, slots := 0, locals := 40 } : Room) s m args below meth c H locs 0 0 Q (F0 m 53 ls []) by
    refine lv_icmp_ne (tgt := 53) X.1 X.2.1 dX3_device_42 (by decide) (fun c_42 => ?_) (fun c_42 => ?_)
    · exact K_53 j39_mm _ _ _ (if_neg c_42).symm (lv_sub hl [0, 1, 2] rfl) Z
    · refine lv_aload_n X.1 X.2.1 dX3_device_45 rfl (lv_at hl 1 rfl) ?_
      refine G_X3_r X hT Z dX3_device_46 ?_
      refine lv_bipush (v := 7) X.1 X.2.1 dX3_device_49 (by decide) ?_
      refine lv_iconst (v := 0) X.1 X.2.1 dX3_device_51 (by decide) ?_
      refine S_X3_r (j := 7) X Z (vin_c (by decide)) (by decide) dX3_device_52 (fun H locs Z => ?_)
      exact K_53 (va_up j39_mm 1 (upd (j39_mm 1) 7 0)) _ _ _ (if_pos c_42).symm (lv_sub hl [0, 1, 2] rfl) Z
  intro j53_mm ls H locs e_j53_mm hl Z
  refine lv_iload_n X.1 X.2.1 dX3_device_53 rfl (lv_at hl 0 rfl) ?_
  refine lv_bipush (v := 25) X.1 X.2.1 dX3_device_54 (by decide) ?_
  suffices K_74 : ∀ (j74_g : Nat → Int32) (j74_mm : Nat → Nat → Int32) (ls : Array Slot) (H : Heap) (locs : List Loc), j74_g = uX3_device_j74_g g a1 j53_mm → j74_mm = uX3_device_j74_mm g a1 j53_mm → lv_has ls 4 [(2, .int (a1 - 3072)), (0, .ref (q 0)), (1, .int a1)] → ZZ D cI (mw q cI j74_g j74_mm) A s H locs → W p l e ({ frames := 2, cells := 0, slots := 0, locals := 40 } : Room) s m args below meth c H locs 0 0 Q (F0 m 74 ls []) by
    refine lv_icmp_ne (tgt := 74) X.1 X.2.1 dX3_device_56 (by decide) (fun c_56 => ?_) (fun c_56 => ?_)
    · exact K_74 g j53_mm _ _ _ (if_neg c_56).symm (if_neg c_56).symm (lv_sub hl [0, 1, 2] rfl) Z
    · refine lv_aload_n X.1 X.2.1 dX3_device_59 rfl (lv_at hl 1 rfl) ?_
      refine G_X3_r X hT Z dX3_device_60 ?_
      refine lv_bipush (v := 7) X.1 X.2.1 dX3_device_63 (by decide) ?_
      refine L_X3_r (j := 7) X Z (vin_c (by decide)) (by decide) dX3_device_65 ?_
      refine lv_iconst (v := 1) X.1 X.2.1 dX3_device_66 (by decide) ?_
      refine lv_icmp_ne (tgt := 74) X.1 X.2.1 dX3_device_67 (by decide) (fun c_67 => ?_) (fun c_67 => ?_)
      · exact K_74 g j53_mm _ _ _ ((if_pos c_56).trans (if_neg c_67)).symm ((if_pos c_56).trans (if_neg c_67)).symm (lv_sub hl [0, 1, 2] rfl) Z
      · refine lv_aload_n X.1 X.2.1 dX3_device_70 rfl (lv_at hl 1 rfl) ?_
        refine call_Vv X hT Z (qq := (RX3, TX3, 11)) k_X3_73 (c_X3_skip l D cI q g j53_mm ) rfl rfl hd_X3_skip ⟨by decide, by decide⟩ ⟨rfl, rfl⟩ hl.1 (rest := []) rfl (Nat.le_of_ble_eq_true rfl) ⟨by decide, by decide⟩ dX3_device_71 (fun H locs Z => ?_)
        exact K_74 (gX3_skip g j53_mm) (mX3_skip g j53_mm) _ _ _ ((if_pos c_56).trans (if_pos c_67)).symm ((if_pos c_56).trans (if_pos c_67)).symm (lv_sub hl [0, 1, 2] rfl) Z
  intro j74_g j74_mm ls H locs e_j74_g e_j74_mm hl Z
  refine lv_iload_n X.1 X.2.1 dX3_device_74 rfl (lv_at hl 0 rfl) ?_
  refine lv_bipush (v := 26) X.1 X.2.1 dX3_device_75 (by decide) ?_
  suffices K_87 : ∀ (j87_mm : Nat → Nat → Int32) (ls : Array Slot) (H : Heap) (locs : List Loc), j87_mm = uX3_device_j87_mm a1 j74_mm → lv_has ls 4 [(2, .int (a1 - 3072)), (0, .ref (q 0)), (1, .int a1)] → ZZ D cI (mw q cI j74_g j87_mm) A s H locs → W p l e ({ frames := 2, cells := 0, slots := 0, locals := 40 } : Room) s m args below meth c H locs 0 0 Q (F0 m 87 ls []) by
    refine lv_icmp_ne (tgt := 87) X.1 X.2.1 dX3_device_77 (by decide) (fun c_77 => ?_) (fun c_77 => ?_)
    · exact K_87 j74_mm _ _ _ (if_neg c_77).symm (lv_sub hl [0, 1, 2] rfl) Z
    · refine lv_aload_n X.1 X.2.1 dX3_device_80 rfl (lv_at hl 1 rfl) ?_
      refine G_X3_r X hT Z dX3_device_81 ?_
      refine lv_iconst (v := 0) X.1 X.2.1 dX3_device_84 (by decide) ?_
      refine lv_iconst (v := 0) X.1 X.2.1 dX3_device_85 (by decide) ?_
      refine S_X3_r (j := 0) X Z (vin_c (by decide)) (by decide) dX3_device_86 (fun H locs Z => ?_)
      exact K_87 (va_up j74_mm 1 (upd (j74_mm 1) 0 0)) _ _ _ (if_pos c_77).symm (lv_sub hl [0, 1, 2] rfl) Z
  intro j87_mm ls H locs e_j87_mm hl Z
  refine lv_iload_n X.1 X.2.1 dX3_device_87 rfl (lv_at hl 0 rfl) ?_
  refine lv_bipush (v := 28) X.1 X.2.1 dX3_device_88 (by decide) ?_
  suffices K_113 : ∀ (j113_mm : Nat → Nat → Int32) (ls : Array Slot) (H : Heap) (locs : List Loc), j113_mm = uX3_device_j113_mm a1 j87_mm → lv_has ls 4 [(2, .int (a1 - 3072)), (0, .ref (q 0)), (1, .int a1)] → ZZ D cI (mw q cI j74_g j113_mm) A s H locs → W p l e ({ frames := 2, cells := 0, slots := 0, locals := 40 } : Room) s m args below meth c H locs 0 0 Q (F0 m 113 ls []) by
    refine lv_icmp_ne (tgt := 113) X.1 X.2.1 dX3_device_90 (by decide) (fun c_90 => ?_) (fun c_90 => ?_)
    · exact K_113 j87_mm _ _ _ (if_neg c_90).symm (lv_sub hl [0, 1, 2] rfl) Z
    · refine lv_aload_n X.1 X.2.1 dX3_device_93 rfl (lv_at hl 1 rfl) ?_
      refine G_X3_r X hT Z dX3_device_94 ?_
      refine lv_iconst (v := 0) X.1 X.2.1 dX3_device_97 (by decide) ?_
      refine lv_aload_n X.1 X.2.1 dX3_device_98 rfl (lv_at hl 1 rfl) ?_
      refine G_X3_r X hT Z dX3_device_99 ?_
      refine lv_iconst (v := 0) X.1 X.2.1 dX3_device_102 (by decide) ?_
      refine L_X3_r (j := 0) X Z (vin_c (by decide)) (by decide) dX3_device_103 ?_
      refine lv_aload_n X.1 X.2.1 dX3_device_104 rfl (lv_at hl 1 rfl) ?_
      refine G_X3_r X hT Z dX3_device_105 ?_
      refine lv_bipush (v := 8) X.1 X.2.1 dX3_device_108 (by decide) ?_
      refine L_X3_r (j := 8) X Z (vin_c (by decide)) (by decide) dX3_device_110 ?_
      refine lv_ior X.1 X.2.1 dX3_device_111 ?_
      refine S_X3_r (j := 0) X Z (vin_c (by decide)) (by decide) dX3_device_112 (fun H locs Z => ?_)
      exact K_113 (va_up j87_mm 1 (upd (j87_mm 1) 0 ((j87_mm 1 0) ||| (j87_mm 1 8)))) _ _ _ (if_pos c_90).symm (lv_sub hl [0, 1, 2] rfl) Z
  intro j113_mm ls H locs e_j113_mm hl Z
  refine lv_iload_n X.1 X.2.1 dX3_device_113 rfl (lv_at hl 0 rfl) ?_
  refine lv_bipush (v := 30) X.1 X.2.1 dX3_device_114 (by decide) ?_
  suffices K_132 : ∀ (j132_mm : Nat → Nat → Int32) (ls : Array Slot) (H : Heap) (locs : List Loc), j132_mm = uX3_device_j132_mm a1 j113_mm → lv_has ls 4 [(2, .int (a1 - 3072)), (0, .ref (q 0)), (1, .int a1)] → ZZ D cI (mw q cI j74_g j132_mm) A s H locs → W p l e ({ frames := 2, cells := 0, slots := 0, locals := 40 } : Room) s m args below meth c H locs 0 0 Q (F0 m 132 ls []) by
    refine lv_icmp_ne (tgt := 132) X.1 X.2.1 dX3_device_116 (by decide) (fun c_116 => ?_) (fun c_116 => ?_)
    · exact K_132 j113_mm _ _ _ (if_neg c_116).symm (lv_sub hl [0, 1, 2] rfl) Z
    · refine lv_aload_n X.1 X.2.1 dX3_device_119 rfl (lv_at hl 1 rfl) ?_
      refine G_X3_r X hT Z dX3_device_120 ?_
      refine lv_iconst (v := 0) X.1 X.2.1 dX3_device_123 (by decide) ?_
      refine lv_aload_n X.1 X.2.1 dX3_device_124 rfl (lv_at hl 1 rfl) ?_
      refine G_X3_r X hT Z dX3_device_125 ?_
      refine lv_bipush (v := 8) X.1 X.2.1 dX3_device_128 (by decide) ?_
      refine L_X3_r (j := 8) X Z (vin_c (by decide)) (by decide) dX3_device_130 ?_
      refine S_X3_r (j := 0) X Z (vin_c (by decide)) (by decide) dX3_device_131 (fun H locs Z => ?_)
      exact K_132 (va_up j113_mm 1 (upd (j113_mm 1) 0 (j113_mm 1 8))) _ _ _ (if_pos c_116).symm (lv_sub hl [0, 1, 2] rfl) Z
  intro j132_mm ls H locs e_j132_mm hl Z
  refine lv_iload_n X.1 X.2.1 dX3_device_132 rfl (lv_at hl 0 rfl) ?_
  refine lv_bipush (v := 26) X.1 X.2.1 dX3_device_133 (by decide) ?_
  suffices K_148 : ∀ (j148_g : Nat → Int32) (j148_mm : Nat → Nat → Int32) (ls : Array Slot) (H : Heap) (locs : List Loc), j148_g = uX3_device_j148_g a1 j74_g j132_mm → j148_mm = uX3_device_j148_mm a1 j74_g j132_mm → lv_has ls 4 [(2, .int (a1 - 3072)), (0, .ref (q 0)), (1, .int a1)] → ZZ D cI (mw q cI j148_g j148_mm) A s H locs → W p l e ({ frames := 2, cells := 0, slots := 0, locals := 40 } : Room) s m args below meth c H locs 0 0 Q (F0 m 148 ls []) by
    refine lv_icmp_eq (tgt := 144) X.1 X.2.1 dX3_device_135 (by decide) (fun c_135 => ?_) (fun c_135 => ?_)
    · refine lv_aload_n X.1 X.2.1 dX3_device_144 rfl (lv_at hl 1 rfl) ?_
      refine call_Vv X hT Z (qq := (RX3, TX3, 11)) k_X3_76 (c_X3_advance l D cI q j74_g j132_mm (by rw [e_j74_g]; exact ma_74 ha)) rfl rfl hd_X3_advance ⟨by decide, by decide⟩ ⟨rfl, rfl⟩ hl.1 (rest := []) rfl (Nat.le_of_ble_eq_true rfl) ⟨by decide, by decide⟩ dX3_device_145 (fun H locs Z => ?_)
      exact K_148 (gX3_advance j74_g j132_mm) (mX3_advance j74_g j132_mm) _ _ _ (if_pos c_135).symm (if_pos c_135).symm (lv_sub hl [0, 1, 2] rfl) Z
    · refine lv_iload_n X.1 X.2.1 dX3_device_138 rfl (lv_at hl 0 rfl) ?_
      refine lv_bipush (v := 30) X.1 X.2.1 dX3_device_139 (by decide) ?_
      refine lv_icmp_ne (tgt := 148) X.1 X.2.1 dX3_device_141 (by decide) (fun c_141 => ?_) (fun c_141 => ?_)
      · exact K_148 j74_g j132_mm _ _ _ ((if_neg c_135).trans (if_neg c_141)).symm ((if_neg c_135).trans (if_neg c_141)).symm (lv_sub hl [0, 1, 2] rfl) Z
      · refine lv_aload_n X.1 X.2.1 dX3_device_144 rfl (lv_at hl 1 rfl) ?_
        refine call_Vv X hT Z (qq := (RX3, TX3, 11)) k_X3_76 (c_X3_advance l D cI q j74_g j132_mm (by rw [e_j74_g]; exact ma_74 ha)) rfl rfl hd_X3_advance ⟨by decide, by decide⟩ ⟨rfl, rfl⟩ hl.1 (rest := []) rfl (Nat.le_of_ble_eq_true rfl) ⟨by decide, by decide⟩ dX3_device_145 (fun H locs Z => ?_)
        exact K_148 (gX3_advance j74_g j132_mm) (mX3_advance j74_g j132_mm) _ _ _ ((if_neg c_135).trans (if_pos c_141)).symm ((if_neg c_135).trans (if_pos c_141)).symm (lv_sub hl [0, 1, 2] rfl) Z
  intro j148_g j148_mm ls H locs e_j148_g e_j148_mm hl Z
  refine lv_iload_n X.1 X.2.1 dX3_device_148 rfl (lv_at hl 0 rfl) ?_
  refine lv_bipush (v := 33) X.1 X.2.1 dX3_device_149 (by decide) ?_
  suffices K_169 : ∀ (j169_g : Nat → Int32) (j169_mm : Nat → Nat → Int32) (ls : Array Slot) (H : Heap) (locs : List Loc), j169_g = uX3_device_j169_g a1 j148_g j148_mm → j169_mm = uX3_device_j169_mm a1 j148_g j148_mm → lv_has ls 4 [(2, .int (a1 - 3072)), (0, .ref (q 0)), (1, .int a1)] → ZZ D cI (mw q cI j169_g j169_mm) A s H locs → W p l e ({ frames := 2, cells := 0, slots := 0, locals := 40 } : Room) s m args below meth c H locs 0 0 Q (F0 m 169 ls []) by
    refine lv_icmp_ne (tgt := 169) X.1 X.2.1 dX3_device_151 (by decide) (fun c_151 => ?_) (fun c_151 => ?_)
    · exact K_169 j148_g j148_mm _ _ _ (if_neg c_151).symm (if_neg c_151).symm (lv_sub hl [0, 1, 2] rfl) Z
    · refine lv_aload_n X.1 X.2.1 dX3_device_154 rfl (lv_at hl 1 rfl) ?_
      refine G_X3_r X hT Z dX3_device_155 ?_
      refine lv_bipush (v := 9) X.1 X.2.1 dX3_device_158 (by decide) ?_
      refine L_X3_r (j := 9) X Z (vin_c (by decide)) (by decide) dX3_device_160 ?_
      refine lv_iconst (v := 1) X.1 X.2.1 dX3_device_161 (by decide) ?_
      refine lv_icmp_ne (tgt := 169) X.1 X.2.1 dX3_device_162 (by decide) (fun c_162 => ?_) (fun c_162 => ?_)
      · exact K_169 j148_g j148_mm _ _ _ ((if_pos c_151).trans (if_neg c_162)).symm ((if_pos c_151).trans (if_neg c_162)).symm (lv_sub hl [0, 1, 2] rfl) Z
      · refine lv_aload_n X.1 X.2.1 dX3_device_165 rfl (lv_at hl 1 rfl) ?_
        refine call_Vv X hT Z (qq := (RX3, TX3, 11)) k_X3_73 (c_X3_skip l D cI q j148_g j148_mm ) rfl rfl hd_X3_skip ⟨by decide, by decide⟩ ⟨rfl, rfl⟩ hl.1 (rest := []) rfl (Nat.le_of_ble_eq_true rfl) ⟨by decide, by decide⟩ dX3_device_166 (fun H locs Z => ?_)
        exact K_169 (gX3_skip j148_g j148_mm) (mX3_skip j148_g j148_mm) _ _ _ ((if_pos c_151).trans (if_pos c_162)).symm ((if_pos c_151).trans (if_pos c_162)).symm (lv_sub hl [0, 1, 2] rfl) Z
  intro j169_g j169_mm ls H locs e_j169_g e_j169_mm hl Z
  refine lv_iload_n X.1 X.2.1 dX3_device_169 rfl (lv_at hl 0 rfl) ?_
  refine lv_bipush (v := 34) X.1 X.2.1 dX3_device_170 (by decide) ?_
  suffices K_183 : ∀ (j183_mm : Nat → Nat → Int32) (ls : Array Slot) (H : Heap) (locs : List Loc), j183_mm = uX3_device_j183_mm a1 j169_mm → lv_has ls 4 [(2, .int (a1 - 3072)), (0, .ref (q 0)), (1, .int a1)] → ZZ D cI (mw q cI j169_g j183_mm) A s H locs → W p l e ({ frames := 2, cells := 0, slots := 0, locals := 40 } : Room) s m args below meth c H locs 0 0 Q (F0 m 183 ls []) by
    refine lv_icmp_ne (tgt := 183) X.1 X.2.1 dX3_device_172 (by decide) (fun c_172 => ?_) (fun c_172 => ?_)
    · exact K_183 j169_mm _ _ _ (if_neg c_172).symm (lv_sub hl [0, 1, 2] rfl) Z
    · refine lv_aload_n X.1 X.2.1 dX3_device_175 rfl (lv_at hl 1 rfl) ?_
      refine G_X3_r X hT Z dX3_device_176 ?_
      refine lv_bipush (v := 9) X.1 X.2.1 dX3_device_179 (by decide) ?_
      refine lv_iconst (v := 0) X.1 X.2.1 dX3_device_181 (by decide) ?_
      refine S_X3_r (j := 9) X Z (vin_c (by decide)) (by decide) dX3_device_182 (fun H locs Z => ?_)
      exact K_183 (va_up j169_mm 1 (upd (j169_mm 1) 9 0)) _ _ _ (if_pos c_172).symm (lv_sub hl [0, 1, 2] rfl) Z
  intro j183_mm ls H locs e_j183_mm hl Z
  refine lv_iload_n X.1 X.2.1 dX3_device_183 rfl (lv_at hl 0 rfl) ?_
  refine lv_bipush (v := 36) X.1 X.2.1 dX3_device_184 (by decide) ?_
  suffices K_256 : ∀ (j256_g : Nat → Int32) (j256_mm : Nat → Nat → Int32) (ls : Array Slot) (H : Heap) (locs : List Loc), j256_g = uX3_device_j256_g a1 j169_g → j256_mm = uX3_device_j256_mm a1 j183_mm → lv_has ls 4 [(2, .int (a1 - 3072)), (1, .int a1), (0, .ref (q 0))] → ZZ D cI (mw q cI j256_g j256_mm) A s H locs → W p l e ({ frames := 2, cells := 0, slots := 0, locals := 40 } : Room) s m args below meth c H locs 0 0 Q (F0 m 256 ls []) by
    refine lv_icmp_eq (tgt := 195) X.1 X.2.1 dX3_device_186 (by decide) (fun c_186 => ?_) (fun c_186 => ?_)
    · refine lv_bipush (v := 63) X.1 X.2.1 dX3_device_195 (by decide) ?_
      refine lv_istore_n (lv' := [(3, .int 63), (2, .int (a1 - 3072)), (0, .ref (q 0)), (1, .int a1)]) X.1 X.2.1 dX3_device_197 rfl hl (by decide) rfl (fun ls hl => ?_)
      refine lp_X3_device X hT D cI q j169_g j183_mm a1 (a1 - 3072) (fun ls H locs hl Z => ?_) 63 (by decide) _ _ _ (lv_sub hl [0, 1, 3, 2] rfl) (by rw [shf_63]; exact Z)
      refine lv_aload_n X.1 X.2.1 dX3_device_222 rfl (lv_at hl 3 rfl) ?_
      refine G_X3_out X hT Z dX3_device_223 ?_
      refine lv_iconst (v := 0) X.1 X.2.1 dX3_device_226 (by decide) ?_
      refine lv_aload_n X.1 X.2.1 dX3_device_227 rfl (lv_at hl 3 rfl) ?_
      refine G_X3_r X hT Z dX3_device_228 ?_
      refine lv_iconst (v := 0) X.1 X.2.1 dX3_device_231 (by decide) ?_
      refine L_X3_r (j := 0) X Z (vin_c (by decide)) (by decide) dX3_device_232 ?_
      refine lv_sipush (v := 256) X.1 X.2.1 dX3_device_233 (by decide) ?_
      refine lv_irem X.1 X.2.1 dX3_device_236 (by decide) ?_
      refine S_X3_out (j := 0) X Z (vin_c (by decide)) (by decide) dX3_device_237 (fun H locs Z => ?_)
      refine lv_aload_n X.1 X.2.1 dX3_device_238 rfl (lv_at hl 3 rfl) ?_
      refine lv_dup X.1 X.2.1 dX3_device_239 rfl ?_
      refine G_X3_printed X hT Z dX3_device_240 ?_
      refine lv_iconst (v := 1) X.1 X.2.1 dX3_device_243 (by decide) ?_
      refine lv_iadd X.1 X.2.1 dX3_device_244 ?_
      refine P_X3_printed X hT Z dX3_device_245 (fun H locs Z => ?_)
      refine lv_aload_n X.1 X.2.1 dX3_device_248 rfl (lv_at hl 3 rfl) ?_
      refine G_X3_r X hT Z dX3_device_249 ?_
      refine lv_bipush (v := 9) X.1 X.2.1 dX3_device_252 (by decide) ?_
      refine lv_iconst (v := 1) X.1 X.2.1 dX3_device_254 (by decide) ?_
      refine S_X3_r (j := 9) X Z (vin_c (by decide)) (by decide) dX3_device_255 (fun H locs Z => ?_)
      exact K_256 (upd j169_g 2 ((j169_g 2) + 1)) (va_up (va_up (va_up j183_mm 3 (shf (j183_mm 3) 0)) 3 (upd ((va_up j183_mm 3 (shf (j183_mm 3) 0)) 3) 0 (((va_up j183_mm 3 (shf (j183_mm 3) 0)) 1 0) - ((va_up j183_mm 3 (shf (j183_mm 3) 0)) 1 0) / 256 * 256))) 1 (upd ((va_up (va_up j183_mm 3 (shf (j183_mm 3) 0)) 3 (upd ((va_up j183_mm 3 (shf (j183_mm 3) 0)) 3) 0 (((va_up j183_mm 3 (shf (j183_mm 3) 0)) 1 0) - ((va_up j183_mm 3 (shf (j183_mm 3) 0)) 1 0) / 256 * 256))) 1) 9 1)) _ _ _ (if_pos c_186).symm (if_pos c_186).symm (lv_sub hl [1, 2, 3] rfl) Z
    · refine lv_iload_n X.1 X.2.1 dX3_device_189 rfl (lv_at hl 0 rfl) ?_
      refine lv_bipush (v := 38) X.1 X.2.1 dX3_device_190 (by decide) ?_
      refine lv_icmp_ne (tgt := 256) X.1 X.2.1 dX3_device_192 (by decide) (fun c_192 => ?_) (fun c_192 => ?_)
      · exact K_256 j169_g j183_mm _ _ _ ((if_neg c_186).trans (if_neg c_192)).symm ((if_neg c_186).trans (if_neg c_192)).symm (lv_sub hl [0, 2, 1] rfl) Z
      · refine lv_bipush (v := 63) X.1 X.2.1 dX3_device_195 (by decide) ?_
        refine lv_istore_n (lv' := [(3, .int 63), (2, .int (a1 - 3072)), (0, .ref (q 0)), (1, .int a1)]) X.1 X.2.1 dX3_device_197 rfl hl (by decide) rfl (fun ls hl => ?_)
        refine lp_X3_device X hT D cI q j169_g j183_mm a1 (a1 - 3072) (fun ls H locs hl Z => ?_) 63 (by decide) _ _ _ (lv_sub hl [0, 1, 3, 2] rfl) (by rw [shf_63]; exact Z)
        refine lv_aload_n X.1 X.2.1 dX3_device_222 rfl (lv_at hl 3 rfl) ?_
        refine G_X3_out X hT Z dX3_device_223 ?_
        refine lv_iconst (v := 0) X.1 X.2.1 dX3_device_226 (by decide) ?_
        refine lv_aload_n X.1 X.2.1 dX3_device_227 rfl (lv_at hl 3 rfl) ?_
        refine G_X3_r X hT Z dX3_device_228 ?_
        refine lv_iconst (v := 0) X.1 X.2.1 dX3_device_231 (by decide) ?_
        refine L_X3_r (j := 0) X Z (vin_c (by decide)) (by decide) dX3_device_232 ?_
        refine lv_sipush (v := 256) X.1 X.2.1 dX3_device_233 (by decide) ?_
        refine lv_irem X.1 X.2.1 dX3_device_236 (by decide) ?_
        refine S_X3_out (j := 0) X Z (vin_c (by decide)) (by decide) dX3_device_237 (fun H locs Z => ?_)
        refine lv_aload_n X.1 X.2.1 dX3_device_238 rfl (lv_at hl 3 rfl) ?_
        refine lv_dup X.1 X.2.1 dX3_device_239 rfl ?_
        refine G_X3_printed X hT Z dX3_device_240 ?_
        refine lv_iconst (v := 1) X.1 X.2.1 dX3_device_243 (by decide) ?_
        refine lv_iadd X.1 X.2.1 dX3_device_244 ?_
        refine P_X3_printed X hT Z dX3_device_245 (fun H locs Z => ?_)
        refine lv_aload_n X.1 X.2.1 dX3_device_248 rfl (lv_at hl 3 rfl) ?_
        refine G_X3_r X hT Z dX3_device_249 ?_
        refine lv_bipush (v := 9) X.1 X.2.1 dX3_device_252 (by decide) ?_
        refine lv_iconst (v := 1) X.1 X.2.1 dX3_device_254 (by decide) ?_
        refine S_X3_r (j := 9) X Z (vin_c (by decide)) (by decide) dX3_device_255 (fun H locs Z => ?_)
        exact K_256 (upd j169_g 2 ((j169_g 2) + 1)) (va_up (va_up (va_up j183_mm 3 (shf (j183_mm 3) 0)) 3 (upd ((va_up j183_mm 3 (shf (j183_mm 3) 0)) 3) 0 (((va_up j183_mm 3 (shf (j183_mm 3) 0)) 1 0) - ((va_up j183_mm 3 (shf (j183_mm 3) 0)) 1 0) / 256 * 256))) 1 (upd ((va_up (va_up j183_mm 3 (shf (j183_mm 3) 0)) 3 (upd ((va_up j183_mm 3 (shf (j183_mm 3) 0)) 3) 0 (((va_up j183_mm 3 (shf (j183_mm 3) 0)) 1 0) - ((va_up j183_mm 3 (shf (j183_mm 3) 0)) 1 0) / 256 * 256))) 1) 9 1)) _ _ _ ((if_neg c_186).trans (if_pos c_192)).symm ((if_neg c_186).trans (if_pos c_192)).symm (lv_sub hl [1, 2, 3] rfl) Z
  intro j256_g j256_mm ls H locs e_j256_g e_j256_mm hl Z
  exact hret _ _ _ _ _ Z (mw_eq (by subst e_j19_mm e_j39_mm e_j53_mm e_j74_g e_j74_mm e_j87_mm e_j113_mm e_j132_mm e_j148_g e_j148_mm e_j169_g e_j169_mm e_j183_mm e_j256_g e_j256_mm; exact rfl) (by subst e_j19_mm e_j39_mm e_j53_mm e_j74_g e_j74_mm e_j87_mm e_j113_mm e_j132_mm e_j148_g e_j148_mm e_j169_g e_j169_mm e_j183_mm e_j256_g e_j256_mm; exact rfl)) dX3_device_256
