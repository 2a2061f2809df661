/-! the two run methods: loops over step -/
def cRun : Nat → (Nat → Int32) → (Nat → Nat → Int32) → Nat × (Nat → Int32) × (Nat → Nat → Int32)
  | 0, g, mm => (0, g, mm)
  | d + 1, g, mm => if g 5 = 0 then ((cRun d (gX2_step g mm) (mX2_step g mm)).1 + 1, (cRun d (gX2_step g mm) (mX2_step g mm)).2) else (0, g, mm)
def cOK : Nat → (Nat → Int32) → (Nat → Nat → Int32) → Prop
  | 0, _, _ => True
  | d + 1, g, mm => Cq g ∧ cOK d (gX2_step g mm) (mX2_step g mm)
def rX2_run (g : Nat → Int32) (mm : Nat → Nat → Int32) (a1 : Int32) : Int32 := if a1 < 0 then 0 else if a1 ≤ 2000 then nI (cRun a1.toNatClampNeg g mm).1 else 0
def gX2_run (g : Nat → Int32) (mm : Nat → Nat → Int32) (a1 : Int32) : Nat → Int32 := if a1 < 0 then g else if a1 ≤ 2000 then (cRun a1.toNatClampNeg g mm).2.1 else g
def mX2_run (g : Nat → Int32) (mm : Nat → Nat → Int32) (a1 : Int32) : Nat → Nat → Int32 := if a1 < 0 then mm else if a1 ≤ 2000 then (cRun a1.toNatClampNeg g mm).2.2 else mm
set_option maxRecDepth 20000 in
set_option maxHeartbeats 4000000 in
theorem lp_X2_run {p : Program} {l : Launch} {e : Env} {s : State} {m : MethodId} {args : Array Value} {below : List Frame} {meth : Method} {c : Code} {A : Nat → Prop} {Q : State → Prop} {Ts : List Cond} (X : CallFix p m c cX2_run 3 s args Ts RX2) (hT : ∀ w ∈ TB, w ∈ Ts) (D : va_G) (cI : ClassId) (q : Nat → Nat) (N : Nat) (hN : N ≤ 2000) :
    ∀ (d i : Nat) (g : Nat → Int32) (mm : Nat → Nat → Int32), i + d = N → cOK d g mm → ∀ (ls : Array Slot) (H : Heap) (locs : List Loc), lv_has ls 3 [(2, .int (nI i)), (1, .int (nI N)), (0, .ref (q 0))] → ZZ D cI (cw q cI g mm) A s H locs →
    (∀ (ls : Array Slot) (H : Heap) (locs : List Loc), lv_has ls 3 [(2, .int (nI (i + (cRun d g mm).1)))] → ZZ D cI (cw q cI (cRun d g mm).2.1 (cRun d g mm).2.2) A s H locs → W p l e ({ frames := 5, cells := 0, slots := 0, locals := 108 } : Room) s m args below meth c H locs 0 0 Q (F0 m 37 ls [])) →
    W p l e ({ frames := 5, cells := 0, slots := 0, locals := 108 } : Room) s m args below meth c H locs 0 0 Q (F0 m 15 ls []) := by
  intro d
  induction d with
  | zero =>
    intro i g mm hi hq ls H locs hl Z K
    refine lv_iload_n X.1 X.2.1 dX2_run_15 rfl (lv_at hl 0 rfl) ?_
    refine lv_iload_n X.1 X.2.1 dX2_run_16 rfl (lv_at hl 1 rfl) ?_
    refine lv_icmp_ge (tgt := 37) X.1 X.2.1 dX2_run_17 (by decide) (fun _ => ?_) (fun c_1 => absurd (nI_le (by omega) (by omega)) c_1)
    exact K ls H locs (lv_sub hl [0] rfl) Z
  | succ d ih =>
    intro i g mm hi hq ls H locs hl Z K
    refine lv_iload_n X.1 X.2.1 dX2_run_15 rfl (lv_at hl 0 rfl) ?_
    refine lv_iload_n X.1 X.2.1 dX2_run_16 rfl (lv_at hl 1 rfl) ?_
    refine lv_icmp_ge (tgt := 37) X.1 X.2.1 dX2_run_17 (by decide) (fun c_1 => absurd c_1 (nI_ge (by omega) (by omega))) (fun _ => ?_)
    refine lv_aload_n X.1 X.2.1 dX2_run_20 rfl (lv_at hl 2 rfl) ?_
    refine G_X2_halted X hT Z dX2_run_21 ?_
    refine lv_if_ne (tgt := 37) X.1 X.2.1 dX2_run_24 (by decide) (fun c_2 => ?_) (fun c_2 => ?_)
    · have e1 : cRun (d + 1) g mm = (0, g, mm) := if_neg c_2
      rw [e1] at K
      exact K ls H locs (lv_sub hl [0] rfl) Z
    · have e1 : cRun (d + 1) g mm = ((cRun d (gX2_step g mm) (mX2_step g mm)).1 + 1, (cRun d (gX2_step g mm) (mX2_step g mm)).2) := if_pos c_2
      rw [e1] at K
      refine lv_aload_n X.1 X.2.1 dX2_run_27 rfl (lv_at hl 2 rfl) ?_
      refine call_Vv X hT Z (qq := (RX2, TX2, 15)) k_X2_88 (c_X2_step l D cI q g mm hq.1) rfl rfl hd_X2_step ⟨by decide, by decide⟩ ⟨rfl, rfl⟩ hl.1 (rest := []) rfl (Nat.le_of_ble_eq_true rfl) ⟨by decide, by decide⟩ dX2_run_28 (fun H locs Z => ?_)
      refine lv_iinc (v := nI (i + 1)) (lv' := [(2, .int (nI (i + 1))), (1, .int (nI N)), (0, .ref (q 0))]) X.1 X.2.1 dX2_run_31 hl (k := 0) rfl (nI_1 i) (by decide) rfl (fun ls hl => ?_)
      refine lv_goto (tgt := 15) X.1 X.2.1 dX2_run_34 (by decide) ?_
      refine ih (i + 1) _ _ (by omega) hq.2 ls H locs hl Z (fun ls H locs hl Z => ?_)
      refine K ls H locs ?_ Z
      have e2 : i + 1 + (cRun d (gX2_step g mm) (mX2_step g mm)).1 = i + ((cRun d (gX2_step g mm) (mX2_step g mm)).1 + 1) := by omega
      rw [e2] at hl
      exact hl
set_option maxRecDepth 20000 in
set_option maxHeartbeats 4000000 in
theorem c_X2_run (l : Launch) (D : va_G) (cI : ClassId) (q : Nat → Nat) (g : Nat → Int32) (mm : Nat → Nat → Int32) (a1 : Int32) (hq : ∀ d, cOK d g mm) : MI l D cI yX2_run (.code yX2_run cX2_run 3 (some .int)) ({ frames := 5, cells := 0, slots := 0, locals := 108 } : Room) [.ref (q 0), .int a1] (cw q cI g mm) (cw q cI (gX2_run g mm a1) (mX2_run g mm a1)) (some (.int (rX2_run g mm a1))) := by
  refine MI.ofI (own := RX2) (by decide) rfl (Nat.le_of_ble_eq_true rfl) ?_
  intro p e s m args below meth c A ls Q X Z hl hret
  have hT : ∀ w ∈ TB, w ∈ (Cond.code yX2_run cX2_run 3 (some .int) :: TB) := fun _ h => List.mem_cons_of_mem _ h
  have hl : lv_has ls 3 [(0, .ref (q 0)), (1, .int a1)] := hl
  refine lv_iload_n X.1 X.2.1 dX2_run_0 rfl (lv_at hl 1 rfl) ?_
  refine lv_if_lt (tgt := 11) X.1 X.2.1 dX2_run_1 (by decide) (fun c_1 => ?_) (fun c_1 => ?_)
  · refine lv_iconst (v := 0) X.1 X.2.1 dX2_run_11 (by decide) ?_
    exact hret _ _ _ _ _ _ Z (cw_eq (if_pos c_1).symm (if_pos c_1).symm) (if_pos c_1).symm dX2_run_12
  · refine lv_iload_n X.1 X.2.1 dX2_run_4 rfl (lv_at hl 1 rfl) ?_
    refine lv_sipush (v := 2000) X.1 X.2.1 dX2_run_5 (by decide) ?_
    refine lv_icmp_le (tgt := 13) X.1 X.2.1 dX2_run_8 (by decide) (fun c_8 => ?_) (fun c_8 => ?_)
    · obtain ⟨N, hN, rfl⟩ := nI_of2 (M := 2000) (n := 2000) (by decide) c_1 c_8
      refine lv_iconst (v := 0) X.1 X.2.1 dX2_run_13 (by decide) ?_
      refine lv_istore_n (lv' := [(2, .int 0), (0, .ref (q 0)), (1, .int (nI N))]) X.1 X.2.1 dX2_run_14 rfl hl (by decide) rfl (fun ls hl => ?_)
      refine lp_X2_run X hT D cI q N hN N 0 g mm (by omega) (hq N) ls _ _ (lv_sub hl [0, 2, 1] rfl) Z (fun ls H locs hl Z => ?_)
      refine lv_iload_n X.1 X.2.1 dX2_run_37 rfl (lv_at hl 0 rfl) ?_
      have eN : (nI N).toNatClampNeg = N := nI_clamp (by omega)
      refine hret _ _ _ _ _ _ Z (cw_eq ?_ ?_) ?_ dX2_run_38
      · unfold gX2_run
        rw [if_neg c_1, if_pos c_8, eN]
      · unfold mX2_run
        rw [if_neg c_1, if_pos c_8, eN]
      · unfold rX2_run
        rw [if_neg c_1, if_pos c_8, eN, Nat.zero_add]
    · refine lv_iconst (v := 0) X.1 X.2.1 dX2_run_11 (by decide) ?_
      exact hret _ _ _ _ _ _ Z (cw_eq ((if_neg c_1).trans (if_neg c_8)).symm ((if_neg c_1).trans (if_neg c_8)).symm) ((if_neg c_1).trans (if_neg c_8)).symm dX2_run_12
/-! the reference's -/
def mRun : Nat → (Nat → Int32) → (Nat → Nat → Int32) → Nat × (Nat → Int32) × (Nat → Nat → Int32)
  | 0, g, mm => (0, g, mm)
  | d + 1, g, mm => if mm 1 10 = 0 then ((mRun d (gX3_step g mm) (mX3_step g mm)).1 + 1, (mRun d (gX3_step g mm) (mX3_step g mm)).2) else (0, g, mm)
def SOK (g : Nat → Int32) (mm : Nat → Nat → Int32) : Prop := vp_in (sH mm) 4096 ∧ vp_in (uX3_place_j26_l3 (sW mm) (sH mm)) 4096 ∧ vp_in (rX3_place (sG g mm) (sM mm) (sW mm) (sH mm)) 4096 ∧ Ma (sG g mm)
def mOK : Nat → (Nat → Int32) → (Nat → Nat → Int32) → Prop
  | 0, _, _ => True
  | d + 1, g, mm => SOK g mm ∧ mOK d (gX3_step g mm) (mX3_step g mm)
def rX3_run (g : Nat → Int32) (mm : Nat → Nat → Int32) (a1 : Int32) : Int32 := if a1 < 0 then 0 else if a1 ≤ 2000 then nI (mRun a1.toNatClampNeg g mm).1 else 0
def gX3_run (g : Nat → Int32) (mm : Nat → Nat → Int32) (a1 : Int32) : Nat → Int32 := if a1 < 0 then g else if a1 ≤ 2000 then (mRun a1.toNatClampNeg g mm).2.1 else g
def mX3_run (g : Nat → Int32) (mm : Nat → Nat → Int32) (a1 : Int32) : Nat → Nat → Int32 := if a1 < 0 then mm else if a1 ≤ 2000 then (mRun a1.toNatClampNeg g mm).2.2 else mm
set_option maxRecDepth 20000 in
set_option maxHeartbeats 4000000 in
theorem lp_X3_run {p : Program} {l : Launch} {e : Env} {s : State} {m : MethodId} {args : Array Value} {below : List Frame} {meth : Method} {c : Code} {A : Nat → Prop} {Q : State → Prop} {Ts : List Cond} (X : CallFix p m c cX3_run 4 s args Ts RX3) (hT : ∀ w ∈ TB, w ∈ Ts) (D : va_G) (cI : ClassId) (q : Nat → Nat) (N : Nat) (hN : N ≤ 2000) :
    ∀ (d i : Nat) (g : Nat → Int32) (mm : Nat → Nat → Int32), i + d = N → mOK d g mm → ∀ (ls : Array Slot) (H : Heap) (locs : List Loc), lv_has ls 4 [(3, .int (nI i)), (2, .int (nI i)), (1, .int (nI N)), (0, .ref (q 0))] → ZZ D cI (mw q cI g mm) A s H locs →
    (∀ (ls : Array Slot) (H : Heap) (locs : List Loc), lv_has ls 4 [(2, .int (nI (i + (mRun d g mm).1)))] → ZZ D cI (mw q cI (mRun d g mm).2.1 (mRun d g mm).2.2) A s H locs → W p l e ({ frames := 4, cells := 0, slots := 0, locals := 87 } : Room) s m args below meth c H locs 0 0 Q (F0 m 39 ls [])) →
    W p l e ({ frames := 4, cells := 0, slots := 0, locals := 87 } : Room) s m args below meth c H locs 0 0 Q (F0 m 4 ls []) := by
  intro d
  induction d with
  | zero =>
    intro i g mm hi hq ls H locs hl Z K
    refine lv_iload_n X.1 X.2.1 dX3_run_4 rfl (lv_at hl 0 rfl) ?_
    refine lv_iload_n X.1 X.2.1 dX3_run_5 rfl (lv_at hl 2 rfl) ?_
    refine lv_icmp_ge (tgt := 39) X.1 X.2.1 dX3_run_6 (by decide) (fun _ => ?_) (fun c_1 => absurd (nI_le (by omega) (by omega)) c_1)
    exact K ls H locs (lv_sub hl [1] rfl) Z
  | succ d ih =>
    intro i g mm hi hq ls H locs hl Z K
    refine lv_iload_n X.1 X.2.1 dX3_run_4 rfl (lv_at hl 0 rfl) ?_
    refine lv_iload_n X.1 X.2.1 dX3_run_5 rfl (lv_at hl 2 rfl) ?_
    refine lv_icmp_ge (tgt := 39) X.1 X.2.1 dX3_run_6 (by decide) (fun c_1 => absurd c_1 (nI_ge (by omega) (by omega))) (fun _ => ?_)
    refine lv_iload_n X.1 X.2.1 dX3_run_9 rfl (lv_at hl 2 rfl) ?_
    refine lv_sipush (v := 2000) X.1 X.2.1 dX3_run_10 (by decide) ?_
    refine lv_icmp_gt (tgt := 39) X.1 X.2.1 dX3_run_13 (by decide) (fun c_1 => absurd c_1 (nI_nlt (a := 2000) hN (by decide))) (fun _ => ?_)
    refine lv_aload_n X.1 X.2.1 dX3_run_16 rfl (lv_at hl 3 rfl) ?_
    refine G_X3_r X hT Z dX3_run_17 ?_
    refine lv_bipush (v := 10) X.1 X.2.1 dX3_run_20 (by decide) ?_
    refine L_X3_r (j := 10) X Z (vin_c (by decide)) (by decide) dX3_run_22 ?_
    refine lv_if_ne (tgt := 39) X.1 X.2.1 dX3_run_23 (by decide) (fun c_2 => ?_) (fun c_2 => ?_)
    · have e1 : mRun (d + 1) g mm = (0, g, mm) := if_neg c_2
      rw [e1] at K
      exact K ls H locs (lv_sub hl [1] rfl) Z
    · have e1 : mRun (d + 1) g mm = ((mRun d (gX3_step g mm) (mX3_step g mm)).1 + 1, (mRun d (gX3_step g mm) (mX3_step g mm)).2) := if_pos c_2
      rw [e1] at K
      refine lv_aload_n X.1 X.2.1 dX3_run_26 rfl (lv_at hl 3 rfl) ?_
      refine call_Vv X hT Z (qq := (RX3, TX3, 11)) k_X3_82 (c_X3_step l D cI q g mm hq.1.1 hq.1.2.1 hq.1.2.2.1 hq.1.2.2.2) rfl rfl hd_X3_step ⟨by decide, by decide⟩ ⟨rfl, rfl⟩ hl.1 (rest := []) rfl (Nat.le_of_ble_eq_true rfl) ⟨by decide, by decide⟩ dX3_run_27 (fun H locs Z => ?_)
      refine lv_iinc (v := nI (i + 1)) (lv' := [(2, .int (nI (i + 1))), (3, .int (nI i)), (1, .int (nI N)), (0, .ref (q 0))]) X.1 X.2.1 dX3_run_30 hl (k := 1) rfl (nI_1 i) (by decide) rfl (fun ls hl => ?_)
      refine lv_iinc (v := nI (i + 1)) (lv' := [(3, .int (nI (i + 1))), (2, .int (nI (i + 1))), (1, .int (nI N)), (0, .ref (q 0))]) X.1 X.2.1 dX3_run_33 hl (k := 1) rfl (nI_1 i) (by decide) rfl (fun ls hl => ?_)
      refine lv_goto (tgt := 4) X.1 X.2.1 dX3_run_36 (by decide) ?_
      refine ih (i + 1) _ _ (by omega) hq.2 ls H locs hl Z (fun ls H locs hl Z => ?_)
      refine K ls H locs ?_ Z
      have e2 : i + 1 + (mRun d (gX3_step g mm) (mX3_step g mm)).1 = i + ((mRun d (gX3_step g mm) (mX3_step g mm)).1 + 1) := by omega
      rw [e2] at hl
      exact hl
set_option maxRecDepth 20000 in
set_option maxHeartbeats 4000000 in
theorem c_X3_run (l : Launch) (D : va_G) (cI : ClassId) (q : Nat → Nat) (g : Nat → Int32) (mm : Nat → Nat → Int32) (a1 : Int32) (hq : ∀ d, mOK d g mm) : MI l D cI yX3_run (.code yX3_run cX3_run 4 (some .int)) ({ frames := 4, cells := 0, slots := 0, locals := 87 } : Room) [.ref (q 0), .int a1] (mw q cI g mm) (mw q cI (gX3_run g mm a1) (mX3_run g mm a1)) (some (.int (rX3_run g mm a1))) := by
  refine MI.ofI (own := RX3) (by decide) rfl (Nat.le_of_ble_eq_true rfl) ?_
  intro p e s m args below meth c A ls Q X Z hl hret
  have hT : ∀ w ∈ TB, w ∈ (Cond.code yX3_run cX3_run 4 (some .int) :: TB) := fun _ h => List.mem_cons_of_mem _ h
  have hl : lv_has ls 4 [(0, .ref (q 0)), (1, .int a1)] := hl
  refine lv_iconst (v := 0) X.1 X.2.1 dX3_run_0 (by decide) ?_
  refine lv_istore_n (lv' := [(2, .int 0), (0, .ref (q 0)), (1, .int a1)]) X.1 X.2.1 dX3_run_1 rfl hl (by decide) rfl (fun ls hl => ?_)
  refine lv_iconst (v := 0) X.1 X.2.1 dX3_run_2 (by decide) ?_
  refine lv_istore_n (lv' := [(3, .int 0), (2, .int 0), (0, .ref (q 0)), (1, .int a1)]) X.1 X.2.1 dX3_run_3 rfl hl (by decide) rfl (fun ls hl => ?_)
  by_cases c_1 : a1 < 0
  · refine lv_iload_n X.1 X.2.1 dX3_run_4 rfl (lv_at hl 0 rfl) ?_
    refine lv_iload_n X.1 X.2.1 dX3_run_5 rfl (lv_at hl 3 rfl) ?_
    refine lv_icmp_ge (tgt := 39) X.1 X.2.1 dX3_run_6 (by decide) (fun _ => ?_) (fun c_2 => absurd (Int32.le_of_lt c_1) c_2)
    refine lv_iload_n X.1 X.2.1 dX3_run_39 rfl (lv_at hl 1 rfl) ?_
    exact hret _ _ _ _ _ _ Z (mw_eq (if_pos c_1).symm (if_pos c_1).symm) (if_pos c_1).symm dX3_run_40
  · by_cases c_8 : a1 ≤ 2000
    · obtain ⟨N, hN, rfl⟩ := nI_of2 (M := 2000) (n := 2000) (by decide) c_1 c_8
      refine lp_X3_run X hT D cI q N hN N 0 g mm (by omega) (hq N) ls _ _ (lv_sub hl [0, 1, 3, 2] rfl) Z (fun ls H locs hl Z => ?_)
      refine lv_iload_n X.1 X.2.1 dX3_run_39 rfl (lv_at hl 0 rfl) ?_
      have eN : (nI N).toNatClampNeg = N := nI_clamp (by omega)
      refine hret _ _ _ _ _ _ Z (mw_eq ?_ ?_) ?_ dX3_run_40
      · unfold gX3_run
        rw [if_neg c_1, if_pos c_8, eN]
      · unfold mX3_run
        rw [if_neg c_1, if_pos c_8, eN]
      · unfold rX3_run
        rw [if_neg c_1, if_pos c_8, eN, Nat.zero_add]
    · have e9 := ((if_neg c_1).trans (if_neg c_8) : (if a1 < 0 then (0 : Int32) else if a1 ≤ 2000 then nI (mRun a1.toNatClampNeg g mm).1 else 0) = 0)
      refine lv_iload_n X.1 X.2.1 dX3_run_4 rfl (lv_at hl 0 rfl) ?_
      refine lv_iload_n X.1 X.2.1 dX3_run_5 rfl (lv_at hl 3 rfl) ?_
      refine lv_icmp_ge (tgt := 39) X.1 X.2.1 dX3_run_6 (by decide) (fun _ => ?_) (fun _ => ?_)
      · refine lv_iload_n X.1 X.2.1 dX3_run_39 rfl (lv_at hl 1 rfl) ?_
        exact hret _ _ _ _ _ _ Z (mw_eq ((if_neg c_1).trans (if_neg c_8)).symm ((if_neg c_1).trans (if_neg c_8)).symm) e9.symm dX3_run_40
      · refine lv_iload_n X.1 X.2.1 dX3_run_9 rfl (lv_at hl 3 rfl) ?_
        refine lv_sipush (v := 2000) X.1 X.2.1 dX3_run_10 (by decide) ?_
        refine lv_icmp_gt (tgt := 39) X.1 X.2.1 dX3_run_13 (by decide) (fun _ => ?_) (fun c_9 => absurd (Int32.not_lt.mp c_9) c_8)
        refine lv_iload_n X.1 X.2.1 dX3_run_39 rfl (lv_at hl 1 rfl) ?_
        exact hret _ _ _ _ _ _ Z (mw_eq ((if_neg c_1).trans (if_neg c_8)).symm ((if_neg c_1).trans (if_neg c_8)).symm) e9.symm dX3_run_40
