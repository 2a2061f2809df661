def uX3_first_j192_l5 (mm : Nat → Nat → Int32) (lf : Int32) : Int32 := if lf = 0 then ((((((mm 1 1) * 4096) + (mm 1 0)) / 2) + (((((mm 1 1) * 4096) + (mm 1 0)) - (((mm 1 1) * 4096) + (mm 1 0)) / 2 * 2) * 4096))) else (((((((mm 1 1) * 4096) + (mm 1 0)) * 2) - ((((mm 1 1) * 4096) + (mm 1 0)) * 2) / 8192 * 8192) + ((((mm 1 1) * 4096) + (mm 1 0)) / 4096)))
def tnX3 (lf : Int32) (mm : Nat → Nat → Int32) : Nat → Nat → Int32 := let j192_l5 : Int32 := uX3_first_j192_l5 mm lf; (va_up (va_up mm 1 (upd (mm 1) 1 (j192_l5 / 4096))) 1 (upd ((va_up mm 1 (upd (mm 1) 1 (j192_l5 / 4096))) 1) 0 (j192_l5 - j192_l5 / 4096 * 4096)))
def tnN (lf : Int32) : Nat → (Nat → Nat → Int32) → (Nat → Nat → Int32)
  | 0, mm => mm
  | d + 1, mm => tnN lf d (tnX3 lf mm)
set_option maxRecDepth 20000 in
set_option maxHeartbeats 4000000 in
theorem lp_X3_first {p : Program} {l : Launch} {e : Env} {R : Room} {s : State} {m : MethodId} {args : Array Value} {below : List Frame} {meth : Method} {c : Code} {A : Nat → Prop} {Q : State → Prop} {Ts : List Cond} (X : CallFix p m c cX3_first 6 s args Ts RX3) (hT : ∀ w ∈ TB, w ∈ Ts) (D : va_G) (cI : ClassId) (q : Nat → Nat) (g : Nat → Int32) (a1 lf : Int32) (t : Nat) (ht : t < 1000) :
    ∀ (d i : Nat) (mm : Nat → Nat → Int32), i + d = t → ∀ (ls : Array Slot) (H : Heap) (locs : List Loc), lv_has ls 6 [(4, .int (nI i)), (3, .int (nI t)), (2, .int lf), (1, .int a1), (0, .ref (q 0))] → ZZ D cI (mw q cI g mm) A s H locs →
    (∀ (ls : Array Slot) (H : Heap) (locs : List Loc), ZZ D cI (mw q cI g (tnN lf d mm)) A s H locs → W p l e R s m args below meth c H locs 0 0 Q (F0 m 222 ls [])) → W p l e R s m args below meth c H locs 0 0 Q (F0 m 128 ls []) := by
  intro d
  induction d with
  | zero =>
    intro i mm hi ls H locs hl Z K
    refine lv_iload X.1 X.2.1 dX3_first_128 (lv_at hl 0 rfl) ?_
    refine lv_iload_n X.1 X.2.1 dX3_first_130 rfl (lv_at hl 1 rfl) ?_
    refine lv_icmp_ge (tgt := 222) X.1 X.2.1 dX3_first_131 (by decide) (fun _ => ?_) (fun c_1 => absurd (nI_le (by omega) (by omega)) c_1)
    exact K ls H locs Z
  | succ d ih =>
    intro i mm hi ls H locs hl Z K
    refine lv_iload X.1 X.2.1 dX3_first_128 (lv_at hl 0 rfl) ?_
    refine lv_iload_n X.1 X.2.1 dX3_first_130 rfl (lv_at hl 1 rfl) ?_
    refine lv_icmp_ge (tgt := 222) X.1 X.2.1 dX3_first_131 (by decide) (fun c_1 => absurd c_1 (nI_ge (by omega) (by omega))) (fun _ => ?_)
    refine lv_aload_n X.1 X.2.1 dX3_first_134 rfl (lv_at hl 4 rfl) ?_
    refine G_X3_r X hT Z dX3_first_135 ?_
    refine lv_iconst (v := 1) X.1 X.2.1 dX3_first_138 (by decide) ?_
    refine L_X3_r (j := 1) X Z (vin_c (by decide)) (by decide) dX3_first_139 ?_
    refine lv_sipush (v := 4096) X.1 X.2.1 dX3_first_140 (by decide) ?_
    refine lv_imul X.1 X.2.1 dX3_first_143 ?_
    refine lv_aload_n X.1 X.2.1 dX3_first_144 rfl (lv_at hl 4 rfl) ?_
    refine G_X3_r X hT Z dX3_first_145 ?_
    refine lv_iconst (v := 0) X.1 X.2.1 dX3_first_148 (by decide) ?_
    refine L_X3_r (j := 0) X Z (vin_c (by decide)) (by decide) dX3_first_149 ?_
    refine lv_iadd X.1 X.2.1 dX3_first_150 ?_
    refine lv_istore (lv' := [(5, .int (((mm 1 1) * 4096) + (mm 1 0))), (4, .int (nI i)), (3, .int (nI t)), (2, .int lf), (1, .int a1), (0, .ref (q 0))]) X.1 X.2.1 dX3_first_151 hl (by decide) rfl (fun ls hl => ?_)
    refine lv_iload_n X.1 X.2.1 dX3_first_153 rfl (lv_at hl 3 rfl) ?_
    suffices K_192 : ∀ (j192_l5 : Int32) (ls : Array Slot) (H : Heap) (locs : List Loc), j192_l5 = uX3_first_j192_l5 mm lf → lv_has ls 6 [(5, .int j192_l5), (4, .int (nI i)), (3, .int (nI t)), (2, .int lf), (1, .int a1), (0, .ref (q 0))] → ZZ D cI (mw q cI g mm) A s H locs → W p l e R s m args below meth c H locs 0 0 Q (F0 m 192 ls []) by
      refine lv_if_eq (tgt := 177) X.1 X.2.1 dX3_first_154 (by decide) (fun c_154 => ?_) (fun c_154 => ?_)
      · refine lv_iload X.1 X.2.1 dX3_first_177 (lv_at hl 0 rfl) ?_
        refine lv_iconst (v := 2) X.1 X.2.1 dX3_first_179 (by decide) ?_
        refine lv_idiv X.1 X.2.1 dX3_first_180 (by decide) ?_
        refine lv_iload X.1 X.2.1 dX3_first_181 (lv_at hl 0 rfl) ?_
        refine lv_iconst (v := 2) X.1 X.2.1 dX3_first_183 (by decide) ?_
        refine lv_irem X.1 X.2.1 dX3_first_184 (by decide) ?_
        refine lv_sipush (v := 4096) X.1 X.2.1 dX3_first_185 (by decide) ?_
        refine lv_imul X.1 X.2.1 dX3_first_188 ?_
        refine lv_iadd X.1 X.2.1 dX3_first_189 ?_
        refine lv_istore (lv' := [(5, .int (((((mm 1 1) * 4096) + (mm 1 0)) / 2) + (((((mm 1 1) * 4096) + (mm 1 0)) - (((mm 1 1) * 4096) + (mm 1 0)) / 2 * 2) * 4096))), (4, .int (nI i)), (3, .int (nI t)), (2, .int lf), (1, .int a1), (0, .ref (q 0))]) X.1 X.2.1 dX3_first_190 hl (by decide) rfl (fun ls hl => ?_)
        exact K_192 (((((mm 1 1) * 4096) + (mm 1 0)) / 2) + (((((mm 1 1) * 4096) + (mm 1 0)) - (((mm 1 1) * 4096) + (mm 1 0)) / 2 * 2) * 4096)) _ _ _ (if_pos c_154).symm (lv_sub hl [0, 1, 2, 3, 4, 5] rfl) Z
      · refine lv_iload X.1 X.2.1 dX3_first_157 (lv_at hl 0 rfl) ?_
        refine lv_iconst (v := 2) X.1 X.2.1 dX3_first_159 (by decide) ?_
        refine lv_imul X.1 X.2.1 dX3_first_160 ?_
        refine lv_sipush (v := 8192) X.1 X.2.1 dX3_first_161 (by decide) ?_
        refine lv_irem X.1 X.2.1 dX3_first_164 (by decide) ?_
        refine lv_iload X.1 X.2.1 dX3_first_165 (lv_at hl 0 rfl) ?_
        refine lv_sipush (v := 4096) X.1 X.2.1 dX3_first_167 (by decide) ?_
        refine lv_idiv X.1 X.2.1 dX3_first_170 (by decide) ?_
        refine lv_iadd X.1 X.2.1 dX3_first_171 ?_
        refine lv_istore (lv' := [(5, .int ((((((mm 1 1) * 4096) + (mm 1 0)) * 2) - ((((mm 1 1) * 4096) + (mm 1 0)) * 2) / 8192 * 8192) + ((((mm 1 1) * 4096) + (mm 1 0)) / 4096))), (4, .int (nI i)), (3, .int (nI t)), (2, .int lf), (1, .int a1), (0, .ref (q 0))]) X.1 X.2.1 dX3_first_172 hl (by decide) rfl (fun ls hl => ?_)
        refine lv_goto (tgt := 192) X.1 X.2.1 dX3_first_174 (by decide) ?_
        exact K_192 ((((((mm 1 1) * 4096) + (mm 1 0)) * 2) - ((((mm 1 1) * 4096) + (mm 1 0)) * 2) / 8192 * 8192) + ((((mm 1 1) * 4096) + (mm 1 0)) / 4096)) _ _ _ (if_neg c_154).symm (lv_sub hl [0, 1, 2, 3, 4, 5] rfl) Z
    intro j192_l5 ls H locs e_j192_l5 hl Z
    refine lv_aload_n X.1 X.2.1 dX3_first_192 rfl (lv_at hl 5 rfl) ?_
    refine G_X3_r X hT Z dX3_first_193 ?_
    refine lv_iconst (v := 1) X.1 X.2.1 dX3_first_196 (by decide) ?_
    refine lv_iload X.1 X.2.1 dX3_first_197 (lv_at hl 0 rfl) ?_
    refine lv_sipush (v := 4096) X.1 X.2.1 dX3_first_199 (by decide) ?_
    refine lv_idiv X.1 X.2.1 dX3_first_202 (by decide) ?_
    refine S_X3_r (j := 1) X Z (vin_c (by decide)) (by decide) dX3_first_203 (fun H locs Z => ?_)
    refine lv_aload_n X.1 X.2.1 dX3_first_204 rfl (lv_at hl 5 rfl) ?_
    refine G_X3_r X hT Z dX3_first_205 ?_
    refine lv_iconst (v := 0) X.1 X.2.1 dX3_first_208 (by decide) ?_
    refine lv_iload X.1 X.2.1 dX3_first_209 (lv_at hl 0 rfl) ?_
    refine lv_sipush (v := 4096) X.1 X.2.1 dX3_first_211 (by decide) ?_
    refine lv_irem X.1 X.2.1 dX3_first_214 (by decide) ?_
    refine S_X3_r (j := 0) X Z (vin_c (by decide)) (by decide) dX3_first_215 (fun H locs Z => ?_)
    refine lv_iinc (v := ((nI i) + 1)) (lv' := [(4, .int ((nI i) + 1)), (5, .int j192_l5), (3, .int (nI t)), (2, .int lf), (1, .int a1), (0, .ref (q 0))]) X.1 X.2.1 dX3_first_216 hl (k := 1) rfl (congrArg (fun z => (nI i) + z) (by decide)) (by decide) rfl (fun ls hl => ?_)
    refine lv_goto (tgt := 128) X.1 X.2.1 dX3_first_219 (by decide) ?_
    have hl := lv_sub (l' := [(4, .int (nI i + 1)), (3, .int (nI t)), (2, .int lf), (1, .int a1), (0, .ref (q 0))]) hl [0, 2, 3, 4, 5] rfl
    rw [nI_1] at hl
    refine ih (i + 1) (tnX3 lf mm) (by omega) ls H locs hl ?_ K
    subst e_j192_l5
    exact Z
def tF (a1 : Int32) : Nat := if rX3_has a1 2 = 0 then 1 else 2
def uX3_first_j17_mm (mm : Nat → Nat → Int32) (a1 : Int32) : Nat → Nat → Int32 := if (rX3_has a1 128) = 0 then (mm) else ((va_up mm 1 (upd (mm 1) 0 0)))
def uX3_first_j33_mm (a1 : Int32) (j17_mm : Nat → Nat → Int32) : Nat → Nat → Int32 := if (rX3_has a1 64) = 0 then (j17_mm) else ((va_up j17_mm 1 (upd (j17_mm 1) 1 0)))
def uX3_first_j58_mm (a1 : Int32) (j33_mm : Nat → Nat → Int32) : Nat → Nat → Int32 := if (rX3_has a1 32) = 0 then (j33_mm) else ((va_up j33_mm 1 (upd (j33_mm 1) 0 (4095 - (j33_mm 1 0)))))
def uX3_first_j81_mm (a1 : Int32) (j58_mm : Nat → Nat → Int32) : Nat → Nat → Int32 := if (rX3_has a1 16) = 0 then (j58_mm) else ((va_up j58_mm 1 (upd (j58_mm 1) 1 (1 - (j58_mm 1 1)))))
def uX3_first_j94_mm (g : Nat → Int32) (a1 : Int32) (j81_mm : Nat → Nat → Int32) : Nat → Nat → Int32 := if (rX3_has a1 1) = 0 then (j81_mm) else ((mX3_add g j81_mm 1))
def uX3_first_j124_s0 (a1 : Int32) : Int32 := if (rX3_has a1 2) = 0 then (1) else (2)
def mX3_first (g : Nat → Int32) (mm : Nat → Nat → Int32) (a1 : Int32) : Nat → Nat → Int32 := let j17_mm : Nat → Nat → Int32 := uX3_first_j17_mm mm a1; let j33_mm : Nat → Nat → Int32 := uX3_first_j33_mm a1 j17_mm; let j58_mm : Nat → Nat → Int32 := uX3_first_j58_mm a1 j33_mm; let j81_mm : Nat → Nat → Int32 := uX3_first_j81_mm a1 j58_mm; let j94_mm : Nat → Nat → Int32 := uX3_first_j94_mm g a1 j81_mm; if (rX3_has a1 4) = (rX3_has a1 8) then (j94_mm) else ((tnN (rX3_has a1 4) (tF a1) j94_mm))
set_option maxRecDepth 20000 in
set_option maxHeartbeats 4000000 in
theorem c_X3_first (l : Launch) (D : va_G) (cI : ClassId) (q : Nat → Nat) (g : Nat → Int32) (mm : Nat → Nat → Int32) (a1 : Int32)  : MI l D cI yX3_first (.code yX3_first cX3_first 6 none) ({ frames := 1, cells := 0, slots := 0, locals := 22 } : Room) [.ref (q 0), .int a1] (mw q cI g mm) (mw q cI g (mX3_first g mm a1)) none := by
  refine MI.ofV (own := RX3) (by decide) rfl (Nat.le_of_ble_eq_true rfl) ?_
  intro p e s m args below meth c A ls Q X Z hl hret
  have hT : ∀ w ∈ TB, w ∈ (Cond.code yX3_first cX3_first 6 none :: TB) := fun _ h => List.mem_cons_of_mem _ h
  have hl : lv_has ls 6 [(0, .ref (q 0)), (1, .int a1)] := hl
  refine lv_iload_n X.1 X.2.1 dX3_first_0 rfl (lv_at hl 1 rfl) ?_
  refine lv_sipush (v := 128) X.1 X.2.1 dX3_first_1 (by decide) ?_
  refine call_Si X hT Z k_X3_57 (c_X3_has l D cI (mw q cI g mm) a1 128 (by decide)) hd_X3_has ⟨by decide, by decide⟩ ⟨rfl, rfl⟩ hl.1 (rest := []) rfl (Nat.le_of_ble_eq_true rfl) ⟨by decide, by decide⟩ dX3_first_4 (fun H locs Z => ?_)
  suffices K_17 : ∀ (j17_mm : Nat → Nat → Int32) (ls : Array Slot) (H : Heap) (locs : List Loc), j17_mm = uX3_first_j17_mm mm a1 → lv_has ls 6 [(0, .ref (q 0)), (1, .int a1)] → ZZ D cI (mw q cI g j17_mm) A s H locs → W p l e ({ frames := 1, cells := 0, slots := 0, locals := 22 } : Room) s m args below meth c H locs 0 0 Q (F0 m 17 ls []) by
    refine lv_if_eq (tgt := 17) X.1 X.2.1 dX3_first_7 (by decide) (fun c_7 => ?_) (fun c_7 => ?_)
    · exact K_17 mm _ _ _ (if_pos c_7).symm (lv_sub hl [0, 1] rfl) Z
    · refine lv_aload_n X.1 X.2.1 dX3_first_10 rfl (lv_at hl 0 rfl) ?_
      refine G_X3_r X hT Z dX3_first_11 ?_
      refine lv_iconst (v := 0) X.1 X.2.1 dX3_first_14 (by decide) ?_
      refine lv_iconst (v := 0) X.1 X.2.1 dX3_first_15 (by decide) ?_
      refine S_X3_r (j := 0) X Z (vin_c (by decide)) (by decide) dX3_first_16 (fun H locs Z => ?_)
      exact K_17 (va_up mm 1 (upd (mm 1) 0 0)) _ _ _ (if_neg c_7).symm (lv_sub hl [0, 1] rfl) Z
  intro j17_mm ls H locs e_j17_mm hl Z
  refine lv_iload_n X.1 X.2.1 dX3_first_17 rfl (lv_at hl 1 rfl) ?_
  refine lv_bipush (v := 64) X.1 X.2.1 dX3_first_18 (by decide) ?_
  refine call_Si X hT Z k_X3_57 (c_X3_has l D cI (mw q cI g j17_mm) a1 64 (by decide)) hd_X3_has ⟨by decide, by decide⟩ ⟨rfl, rfl⟩ hl.1 (rest := []) rfl (Nat.le_of_ble_eq_true rfl) ⟨by decide, by decide⟩ dX3_first_20 (fun H locs Z => ?_)
  suffices K_33 : ∀ (j33_mm : Nat → Nat → Int32) (ls : Array Slot) (H : Heap) (locs : List Loc), j33_mm = uX3_first_j33_mm a1 j17_mm → lv_has ls 6 [(0, .ref (q 0)), (1, .int a1)] → ZZ D cI (mw q cI g j33_mm) A s H locs → W p l e ({ frames := 1, cells := 0, slots := 0, locals := 22 } : Room) s m args below meth c H locs 0 0 Q (F0 m 33 ls []) by
    refine lv_if_eq (tgt := 33) X.1 X.2.1 dX3_first_23 (by decide) (fun c_23 => ?_) (fun c_23 => ?_)
    · exact K_33 j17_mm _ _ _ (if_pos c_23).symm (lv_sub hl [0, 1] rfl) Z
    · refine lv_aload_n X.1 X.2.1 dX3_first_26 rfl (lv_at hl 0 rfl) ?_
      refine G_X3_r X hT Z dX3_first_27 ?_
      refine lv_iconst (v := 1) X.1 X.2.1 dX3_first_30 (by decide) ?_
      refine lv_iconst (v := 0) X.1 X.2.1 dX3_first_31 (by decide) ?_
      refine S_X3_r (j := 1) X Z (vin_c (by decide)) (by decide) dX3_first_32 (fun H locs Z => ?_)
      exact K_33 (va_up j17_mm 1 (upd (j17_mm 1) 1 0)) _ _ _ (if_neg c_23).symm (lv_sub hl [0, 1] rfl) Z
  intro j33_mm ls H locs e_j33_mm hl Z
  refine lv_iload_n X.1 X.2.1 dX3_first_33 rfl (lv_at hl 1 rfl) ?_
  refine lv_bipush (v := 32) X.1 X.2.1 dX3_first_34 (by decide) ?_
  refine call_Si X hT Z k_X3_57 (c_X3_has l D cI (mw q cI g j33_mm) a1 32 (by decide)) hd_X3_has ⟨by decide, by decide⟩ ⟨rfl, rfl⟩ hl.1 (rest := []) rfl (Nat.le_of_ble_eq_true rfl) ⟨by decide, by decide⟩ dX3_first_36 (fun H locs Z => ?_)
  suffices K_58 : ∀ (j58_mm : Nat → Nat → Int32) (ls : Array Slot) (H : Heap) (locs : List Loc), j58_mm = uX3_first_j58_mm a1 j33_mm → lv_has ls 6 [(0, .ref (q 0)), (1, .int a1)] → ZZ D cI (mw q cI g j58_mm) A s H locs → W p l e ({ frames := 1, cells := 0, slots := 0, locals := 22 } : Room) s m args below meth c H locs 0 0 Q (F0 m 58 ls []) by
    refine lv_if_eq (tgt := 58) X.1 X.2.1 dX3_first_39 (by decide) (fun c_39 => ?_) (fun c_39 => ?_)
    · exact K_58 j33_mm _ _ _ (if_pos c_39).symm (lv_sub hl [0, 1] rfl) Z
    · refine lv_aload_n X.1 X.2.1 dX3_first_42 rfl (lv_at hl 0 rfl) ?_
      refine G_X3_r X hT Z dX3_first_43 ?_
      refine lv_iconst (v := 0) X.1 X.2.1 dX3_first_46 (by decide) ?_
      refine lv_sipush (v := 4095) X.1 X.2.1 dX3_first_47 (by decide) ?_
      refine lv_aload_n X.1 X.2.1 dX3_first_50 rfl (lv_at hl 0 rfl) ?_
      refine G_X3_r X hT Z dX3_first_51 ?_
      refine lv_iconst (v := 0) X.1 X.2.1 dX3_first_54 (by decide) ?_
      refine L_X3_r (j := 0) X Z (vin_c (by decide)) (by decide) dX3_first_55 ?_
      refine lv_isub X.1 X.2.1 dX3_first_56 ?_
      refine S_X3_r (j := 0) X Z (vin_c (by decide)) (by decide) dX3_first_57 (fun H locs Z => ?_)
      exact K_58 (va_up j33_mm 1 (upd (j33_mm 1) 0 (4095 - (j33_mm 1 0)))) _ _ _ (if_neg c_39).symm (lv_sub hl [0, 1] rfl) Z
  intro j58_mm ls H locs e_j58_mm hl Z
  refine lv_iload_n X.1 X.2.1 dX3_first_58 rfl (lv_at hl 1 rfl) ?_
  refine lv_bipush (v := 16) X.1 X.2.1 dX3_first_59 (by decide) ?_
  refine call_Si X hT Z k_X3_57 (c_X3_has l D cI (mw q cI g j58_mm) a1 16 (by decide)) hd_X3_has ⟨by decide, by decide⟩ ⟨rfl, rfl⟩ hl.1 (rest := []) rfl (Nat.le_of_ble_eq_true rfl) ⟨by decide, by decide⟩ dX3_first_61 (fun H locs Z => ?_)
  suffices K_81 : ∀ (j81_mm : Nat → Nat → Int32) (ls : Array Slot) (H : Heap) (locs : List Loc), j81_mm = uX3_first_j81_mm a1 j58_mm → lv_has ls 6 [(0, .ref (q 0)), (1, .int a1)] → ZZ D cI (mw q cI g j81_mm) A s H locs → W p l e ({ frames := 1, cells := 0, slots := 0, locals := 22 } : Room) s m args below meth c H locs 0 0 Q (F0 m 81 ls []) by
    refine lv_if_eq (tgt := 81) X.1 X.2.1 dX3_first_64 (by decide) (fun c_64 => ?_) (fun c_64 => ?_)
    · exact K_81 j58_mm _ _ _ (if_pos c_64).symm (lv_sub hl [0, 1] rfl) Z
    · refine lv_aload_n X.1 X.2.1 dX3_first_67 rfl (lv_at hl 0 rfl) ?_
      refine G_X3_r X hT Z dX3_first_68 ?_
      refine lv_iconst (v := 1) X.1 X.2.1 dX3_first_71 (by decide) ?_
      refine lv_iconst (v := 1) X.1 X.2.1 dX3_first_72 (by decide) ?_
      refine lv_aload_n X.1 X.2.1 dX3_first_73 rfl (lv_at hl 0 rfl) ?_
      refine G_X3_r X hT Z dX3_first_74 ?_
      refine lv_iconst (v := 1) X.1 X.2.1 dX3_first_77 (by decide) ?_
      refine L_X3_r (j := 1) X Z (vin_c (by decide)) (by decide) dX3_first_78 ?_
      refine lv_isub X.1 X.2.1 dX3_first_79 ?_
      refine S_X3_r (j := 1) X Z (vin_c (by decide)) (by decide) dX3_first_80 (fun H locs Z => ?_)
      exact K_81 (va_up j58_mm 1 (upd (j58_mm 1) 1 (1 - (j58_mm 1 1)))) _ _ _ (if_neg c_64).symm (lv_sub hl [0, 1] rfl) Z
  intro j81_mm ls H locs e_j81_mm hl Z
  refine lv_iload_n X.1 X.2.1 dX3_first_81 rfl (lv_at hl 1 rfl) ?_
  refine lv_iconst (v := 1) X.1 X.2.1 dX3_first_82 (by decide) ?_
  refine call_Si X hT Z k_X3_57 (c_X3_has l D cI (mw q cI g j81_mm) a1 1 (by decide)) hd_X3_has ⟨by decide, by decide⟩ ⟨rfl, rfl⟩ hl.1 (rest := []) rfl (Nat.le_of_ble_eq_true rfl) ⟨by decide, by decide⟩ dX3_first_83 (fun H locs Z => ?_)
  suffices K_94 : ∀ (j94_mm : Nat → Nat → Int32) (ls : Array Slot) (H : Heap) (locs : List Loc), j94_mm = uX3_first_j94_mm g a1 j81_mm → lv_has ls 6 [(0, .ref (q 0)), (1, .int a1)] → ZZ D cI (mw q cI g j94_mm) A s H locs → W p l e ({ frames := 1, cells := 0, slots := 0, locals := 22 } : Room) s m args below meth c H locs 0 0 Q (F0 m 94 ls []) by
    refine lv_if_eq (tgt := 94) X.1 X.2.1 dX3_first_86 (by decide) (fun c_86 => ?_) (fun c_86 => ?_)
    · exact K_94 j81_mm _ _ _ (if_pos c_86).symm (lv_sub hl [0, 1] rfl) Z
    · refine lv_aload_n X.1 X.2.1 dX3_first_89 rfl (lv_at hl 0 rfl) ?_
      refine lv_iconst (v := 1) X.1 X.2.1 dX3_first_90 (by decide) ?_
      refine call_Vv X hT Z (qq := (RX3, TX3, 11)) k_X3_70 (c_X3_add l D cI q g j81_mm 1 ) rfl rfl hd_X3_add ⟨by decide, by decide⟩ ⟨rfl, rfl⟩ hl.1 (rest := []) rfl (Nat.le_of_ble_eq_true rfl) ⟨by decide, by decide⟩ dX3_first_91 (fun H locs Z => ?_)
      exact K_94 (mX3_add g j81_mm 1) _ _ _ (if_neg c_86).symm (lv_sub hl [0, 1] rfl) Z
  intro j94_mm ls H locs e_j94_mm hl Z
  refine lv_iload_n X.1 X.2.1 dX3_first_94 rfl (lv_at hl 1 rfl) ?_
  refine lv_iconst (v := 4) X.1 X.2.1 dX3_first_95 (by decide) ?_
  refine call_Si X hT Z k_X3_57 (c_X3_has l D cI (mw q cI g j94_mm) a1 4 (by decide)) hd_X3_has ⟨by decide, by decide⟩ ⟨rfl, rfl⟩ hl.1 (rest := []) rfl (Nat.le_of_ble_eq_true rfl) ⟨by decide, by decide⟩ dX3_first_96 (fun H locs Z => ?_)
  refine lv_istore_n (lv' := [(2, .int (rX3_has a1 4)), (0, .ref (q 0)), (1, .int a1)]) X.1 X.2.1 dX3_first_99 rfl hl (by decide) rfl (fun ls hl => ?_)
  refine lv_iload_n X.1 X.2.1 dX3_first_100 rfl (lv_at hl 0 rfl) ?_
  refine lv_iload_n X.1 X.2.1 dX3_first_101 rfl (lv_at hl 2 rfl) ?_
  refine lv_bipush (v := 8) X.1 X.2.1 dX3_first_102 (by decide) ?_
  refine call_Si X hT Z k_X3_57 (c_X3_has l D cI (mw q cI g j94_mm) a1 8 (by decide)) hd_X3_has ⟨by decide, by decide⟩ ⟨rfl, rfl⟩ hl.1 (rest := [.int (rX3_has a1 4)]) rfl (Nat.le_of_ble_eq_true rfl) ⟨by decide, by decide⟩ dX3_first_104 (fun H locs Z => ?_)
  refine lv_icmp_ne (tgt := 111) X.1 X.2.1 dX3_first_107 (by decide) (fun c_107 => ?_) (fun c_107 => ?_)
  · refine lv_iload_n X.1 X.2.1 dX3_first_111 rfl (lv_at hl 2 rfl) ?_
    refine lv_iconst (v := 2) X.1 X.2.1 dX3_first_112 (by decide) ?_
    refine call_Si X hT Z k_X3_57 (c_X3_has l D cI (mw q cI g j94_mm) a1 2 (by decide)) hd_X3_has ⟨by decide, by decide⟩ ⟨rfl, rfl⟩ hl.1 (rest := []) rfl (Nat.le_of_ble_eq_true rfl) ⟨by decide, by decide⟩ dX3_first_113 (fun H locs Z => ?_)
    suffices K_124 : ∀ (j124_s0 : Int32) (ls : Array Slot) (H : Heap) (locs : List Loc), j124_s0 = uX3_first_j124_s0 a1 → lv_has ls 6 [(2, .int (rX3_has a1 4)), (0, .ref (q 0)), (1, .int a1)] → ZZ D cI (mw q cI g j94_mm) A s H locs → W p l e ({ frames := 1, cells := 0, slots := 0, locals := 22 } : Room) s m args below meth c H locs 0 0 Q (F0 m 124 ls [.int j124_s0]) by
      refine lv_if_eq (tgt := 123) X.1 X.2.1 dX3_first_116 (by decide) (fun c_116 => ?_) (fun c_116 => ?_)
      · refine lv_iconst (v := 1) X.1 X.2.1 dX3_first_123 (by decide) ?_
        exact K_124 1 _ _ _ (if_pos c_116).symm (lv_sub hl [0, 1, 2] rfl) Z
      · refine lv_iconst (v := 2) X.1 X.2.1 dX3_first_119 (by decide) ?_
        refine lv_goto (tgt := 124) X.1 X.2.1 dX3_first_120 (by decide) ?_
        exact K_124 2 _ _ _ (if_neg c_116).symm (lv_sub hl [0, 1, 2] rfl) Z
    intro j124_s0 ls H locs e_j124_s0 hl Z
    refine lv_istore_n (lv' := [(3, .int j124_s0), (2, .int (rX3_has a1 4)), (0, .ref (q 0)), (1, .int a1)]) X.1 X.2.1 dX3_first_124 rfl hl (by decide) rfl (fun ls hl => ?_)
    refine lv_iconst (v := 0) X.1 X.2.1 dX3_first_125 (by decide) ?_
    refine lv_istore (lv' := [(4, .int 0), (3, .int j124_s0), (2, .int (rX3_has a1 4)), (0, .ref (q 0)), (1, .int a1)]) X.1 X.2.1 dX3_first_126 hl (by decide) rfl (fun ls hl => ?_)
    have ht : j124_s0 = nI (tF a1) := by
      subst e_j124_s0
      unfold uX3_first_j124_s0 tF
      split <;> rfl
    rw [ht] at hl
    refine lp_X3_first X hT D cI q g a1 (rX3_has a1 4) (tF a1) (by unfold tF; split <;> decide) (tF a1) 0 j94_mm (by omega) _ _ _ (lv_sub hl [0, 1, 2, 4, 3] rfl) Z (fun ls H locs Z => ?_)
    exact hret _ _ _ _ _ Z (mw_eq rfl (by subst e_j17_mm e_j33_mm e_j58_mm e_j81_mm e_j94_mm e_j124_s0; exact (if_neg c_107).symm)) dX3_first_222
  · exact hret _ _ _ _ _ Z (mw_eq rfl (by subst e_j17_mm e_j33_mm e_j58_mm e_j81_mm e_j94_mm; exact (if_pos c_107).symm)) dX3_first_110
