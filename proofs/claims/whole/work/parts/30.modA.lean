/-- the reference's next byte lies in its row -/
def Ma (g : Nat → Int32) : Prop := ¬ g 1 = g 0 → vp_in (g 1) 400
theorem vin_nlt {a M : Int32} {n : Nat} (h1 : ¬ a < 0) (h2 : ¬ M < a) (hM : M.toInt < n) : vp_in a n := by
  rw [vp_in_iff]
  rw [Int32.lt_iff_toInt_lt, Int32.toInt_zero] at h1
  rw [Int32.lt_iff_toInt_lt] at h2
  omega
def gX3_skip (g : Nat → Int32) (mm : Nat → Nat → Int32)  : Nat → Int32 := (upd g 5 ((g 5) + 1))
def mX3_skip (g : Nat → Int32) (mm : Nat → Nat → Int32)  : Nat → Nat → Int32 := (va_up mm 1 (upd (mm 1) 2 (rX3_after (mm 1 2))))
set_option maxRecDepth 20000 in
set_option maxHeartbeats 4000000 in
theorem c_X3_skip (l : Launch) (D : va_G) (cI : ClassId) (q : Nat → Nat) (g : Nat → Int32) (mm : Nat → Nat → Int32)   : MI l D cI yX3_skip (.code yX3_skip cX3_skip 1 none) ({ frames := 1, cells := 0, slots := 0, locals := 20 } : Room) [.ref (q 0)] (mw q cI g mm) (mw q cI (gX3_skip g mm) (mX3_skip g mm)) none := by
  refine MI.ofV (own := RX3) (by decide) rfl (Nat.le_of_ble_eq_true rfl) ?_
  intro p e s m args below meth c A ls Q X Z hl hret
  have hT : ∀ w ∈ TB, w ∈ (Cond.code yX3_skip cX3_skip 1 none :: TB) := fun _ h => List.mem_cons_of_mem _ h
  have hl : lv_has ls 1 [(0, .ref (q 0))] := hl
  refine lv_aload_n X.1 X.2.1 dX3_skip_0 rfl (lv_at hl 0 rfl) ?_
  refine G_X3_r X hT Z dX3_skip_1 ?_
  refine lv_iconst (v := 2) X.1 X.2.1 dX3_skip_4 (by decide) ?_
  refine lv_aload_n X.1 X.2.1 dX3_skip_5 rfl (lv_at hl 0 rfl) ?_
  refine G_X3_r X hT Z dX3_skip_6 ?_
  refine lv_iconst (v := 2) X.1 X.2.1 dX3_skip_9 (by decide) ?_
  refine L_X3_r (j := 2) X Z (vin_c (by decide)) (by decide) dX3_skip_10 ?_
  refine call_Si X hT Z k_X3_32 (c_X3_after l D cI (mw q cI g mm) (mm 1 2) ) hd_X3_after ⟨by decide, by decide⟩ ⟨rfl, rfl⟩ hl.1 (rest := [.int 2, .ref (q 2)]) rfl (Nat.le_of_ble_eq_true rfl) ⟨by decide, by decide⟩ dX3_skip_11 (fun H locs Z => ?_)
  refine S_X3_r (j := 2) X Z (vin_c (by decide)) (by decide) dX3_skip_14 (fun H locs Z => ?_)
  refine lv_aload_n X.1 X.2.1 dX3_skip_15 rfl (lv_at hl 0 rfl) ?_
  refine lv_dup X.1 X.2.1 dX3_skip_16 rfl ?_
  refine G_X3_skips X hT Z dX3_skip_17 ?_
  refine lv_iconst (v := 1) X.1 X.2.1 dX3_skip_20 (by decide) ?_
  refine lv_iadd X.1 X.2.1 dX3_skip_21 ?_
  refine P_X3_skips X hT Z dX3_skip_22 (fun H locs Z => ?_)
  exact hret _ _ _ _ _ Z (mw_eq rfl rfl) dX3_skip_25
def gX3_advance (g : Nat → Int32) (mm : Nat → Nat → Int32)  : Nat → Int32 := if (g 1) = (g 0) then (g) else ((upd g 1 ((g 1) + 1)))
def mX3_advance (g : Nat → Int32) (mm : Nat → Nat → Int32)  : Nat → Nat → Int32 := if (g 1) = (g 0) then ((va_up mm 1 (upd (mm 1) 7 0))) else ((va_up (va_up (va_up mm 1 (upd (mm 1) 7 0)) 1 (upd ((va_up mm 1 (upd (mm 1) 7 0)) 1) 8 ((va_up mm 1 (upd (mm 1) 7 0)) 2 ((g 1).toNatClampNeg)))) 1 (upd ((va_up (va_up mm 1 (upd (mm 1) 7 0)) 1 (upd ((va_up mm 1 (upd (mm 1) 7 0)) 1) 8 ((va_up mm 1 (upd (mm 1) 7 0)) 2 ((g 1).toNatClampNeg)))) 1) 7 1)))
set_option maxRecDepth 20000 in
set_option maxHeartbeats 4000000 in
theorem c_X3_advance (l : Launch) (D : va_G) (cI : ClassId) (q : Nat → Nat) (g : Nat → Int32) (mm : Nat → Nat → Int32)  (ha : Ma g) : MI l D cI yX3_advance (.code yX3_advance cX3_advance 1 none) ({ frames := 0, cells := 0, slots := 0, locals := 0 } : Room) [.ref (q 0)] (mw q cI g mm) (mw q cI (gX3_advance g mm) (mX3_advance g mm)) none := by
  refine MI.ofV (own := RX3) (by decide) rfl (Nat.le_of_ble_eq_true rfl) ?_
  intro p e s m args below meth c A ls Q X Z hl hret
  have hT : ∀ w ∈ TB, w ∈ (Cond.code yX3_advance cX3_advance 1 none :: TB) := fun _ h => List.mem_cons_of_mem _ h
  have hl : lv_has ls 1 [(0, .ref (q 0))] := hl
  refine lv_aload_n X.1 X.2.1 dX3_advance_0 rfl (lv_at hl 0 rfl) ?_
  refine G_X3_r X hT Z dX3_advance_1 ?_
  refine lv_bipush (v := 7) X.1 X.2.1 dX3_advance_4 (by decide) ?_
  refine lv_iconst (v := 0) X.1 X.2.1 dX3_advance_6 (by decide) ?_
  refine S_X3_r (j := 7) X Z (vin_c (by decide)) (by decide) dX3_advance_7 (fun H locs Z => ?_)
  refine lv_aload_n X.1 X.2.1 dX3_advance_8 rfl (lv_at hl 0 rfl) ?_
  refine G_X3_read X hT Z dX3_advance_9 ?_
  refine lv_aload_n X.1 X.2.1 dX3_advance_12 rfl (lv_at hl 0 rfl) ?_
  refine G_X3_fed X hT Z dX3_advance_13 ?_
  refine lv_icmp_ne (tgt := 20) X.1 X.2.1 dX3_advance_16 (by decide) (fun c_16 => ?_) (fun c_16 => ?_)
  · refine lv_aload_n X.1 X.2.1 dX3_advance_20 rfl (lv_at hl 0 rfl) ?_
    refine G_X3_r X hT Z dX3_advance_21 ?_
    refine lv_bipush (v := 8) X.1 X.2.1 dX3_advance_24 (by decide) ?_
    refine lv_aload_n X.1 X.2.1 dX3_advance_26 rfl (lv_at hl 0 rfl) ?_
    refine G_X3_tape X hT Z dX3_advance_27 ?_
    refine lv_aload_n X.1 X.2.1 dX3_advance_30 rfl (lv_at hl 0 rfl) ?_
    refine G_X3_read X hT Z dX3_advance_31 ?_
    refine L_X3_tape (j := (g 1).toNatClampNeg) X Z (ha c_16) rfl dX3_advance_34 ?_
    refine S_X3_r (j := 8) X Z (vin_c (by decide)) (by decide) dX3_advance_35 (fun H locs Z => ?_)
    refine lv_aload_n X.1 X.2.1 dX3_advance_36 rfl (lv_at hl 0 rfl) ?_
    refine lv_dup X.1 X.2.1 dX3_advance_37 rfl ?_
    refine G_X3_read X hT Z dX3_advance_38 ?_
    refine lv_iconst (v := 1) X.1 X.2.1 dX3_advance_41 (by decide) ?_
    refine lv_iadd X.1 X.2.1 dX3_advance_42 ?_
    refine P_X3_read X hT Z dX3_advance_43 (fun H locs Z => ?_)
    refine lv_aload_n X.1 X.2.1 dX3_advance_46 rfl (lv_at hl 0 rfl) ?_
    refine G_X3_r X hT Z dX3_advance_47 ?_
    refine lv_bipush (v := 7) X.1 X.2.1 dX3_advance_50 (by decide) ?_
    refine lv_iconst (v := 1) X.1 X.2.1 dX3_advance_52 (by decide) ?_
    refine S_X3_r (j := 7) X Z (vin_c (by decide)) (by decide) dX3_advance_53 (fun H locs Z => ?_)
    exact hret _ _ _ _ _ Z (mw_eq (if_neg c_16).symm (if_neg c_16).symm) dX3_advance_54
  · exact hret _ _ _ _ _ Z (mw_eq (if_pos c_16).symm (if_pos c_16).symm) dX3_advance_19
def uX3_add_j36_l2 (mm : Nat → Nat → Int32) (a1 : Int32) : Int32 := if ((mm 1 0) + a1) ≤ (4095 : Int32) then (((mm 1 0) + a1)) else ((((mm 1 0) + a1) + (-4096)))
def uX3_add_j36_mm (mm : Nat → Nat → Int32) (a1 : Int32) : Nat → Nat → Int32 := if ((mm 1 0) + a1) ≤ (4095 : Int32) then (mm) else ((va_up mm 1 (upd (mm 1) 1 (1 - (mm 1 1)))))
def mX3_add (g : Nat → Int32) (mm : Nat → Nat → Int32) (a1 : Int32) : Nat → Nat → Int32 := let j36_l2 : Int32 := uX3_add_j36_l2 mm a1; let j36_mm : Nat → Nat → Int32 := uX3_add_j36_mm mm a1; (va_up j36_mm 1 (upd (j36_mm 1) 0 j36_l2))
set_option maxRecDepth 20000 in
set_option maxHeartbeats 4000000 in
theorem c_X3_add (l : Launch) (D : va_G) (cI : ClassId) (q : Nat → Nat) (g : Nat → Int32) (mm : Nat → Nat → Int32) (a1 : Int32)  : MI l D cI yX3_add (.code yX3_add cX3_add 3 none) ({ frames := 0, cells := 0, slots := 0, locals := 0 } : Room) [.ref (q 0), .int a1] (mw q cI g mm) (mw q cI g (mX3_add g mm a1)) none := by
  refine MI.ofV (own := RX3) (by decide) rfl (Nat.le_of_ble_eq_true rfl) ?_
  intro p e s m args below meth c A ls Q X Z hl hret
  have hT : ∀ w ∈ TB, w ∈ (Cond.code yX3_add cX3_add 3 none :: TB) := fun _ h => List.mem_cons_of_mem _ h
  have hl : lv_has ls 3 [(0, .ref (q 0)), (1, .int a1)] := hl
  refine lv_aload_n X.1 X.2.1 dX3_add_0 rfl (lv_at hl 0 rfl) ?_
  refine G_X3_r X hT Z dX3_add_1 ?_
  refine lv_iconst (v := 0) X.1 X.2.1 dX3_add_4 (by decide) ?_
  refine L_X3_r (j := 0) X Z (vin_c (by decide)) (by decide) dX3_add_5 ?_
  refine lv_iload_n X.1 X.2.1 dX3_add_6 rfl (lv_at hl 1 rfl) ?_
  refine lv_iadd X.1 X.2.1 dX3_add_7 ?_
  refine lv_istore_n (lv' := [(2, .int ((mm 1 0) + a1)), (0, .ref (q 0)), (1, .int a1)]) X.1 X.2.1 dX3_add_8 rfl hl (by decide) rfl (fun ls hl => ?_)
  refine lv_iload_n X.1 X.2.1 dX3_add_9 rfl (lv_at hl 0 rfl) ?_
  refine lv_sipush (v := 4095) X.1 X.2.1 dX3_add_10 (by decide) ?_
  suffices K_36 : ∀ (j36_l2 : Int32) (j36_mm : Nat → Nat → Int32) (ls : Array Slot) (H : Heap) (locs : List Loc), j36_l2 = uX3_add_j36_l2 mm a1 → j36_mm = uX3_add_j36_mm mm a1 → lv_has ls 3 [(2, .int j36_l2), (0, .ref (q 0)), (1, .int a1)] → ZZ D cI (mw q cI g j36_mm) A s H locs → W p l e ({ frames := 0, cells := 0, slots := 0, locals := 0 } : Room) s m args below meth c H locs 0 0 Q (F0 m 36 ls []) by
    refine lv_icmp_le (tgt := 36) X.1 X.2.1 dX3_add_13 (by decide) (fun c_13 => ?_) (fun c_13 => ?_)
    · exact K_36 ((mm 1 0) + a1) mm _ _ _ (if_pos c_13).symm (if_pos c_13).symm (lv_sub hl [0, 1, 2] rfl) Z
    · refine lv_iincW (v := (((mm 1 0) + a1) + (-4096))) (lv' := [(2, .int (((mm 1 0) + a1) + (-4096))), (0, .ref (q 0)), (1, .int a1)]) X.1 X.2.1 dX3_add_16 hl (k := 0) rfl (congrArg (fun z => ((mm 1 0) + a1) + z) (by decide)) (by decide) rfl (fun ls hl => ?_)
      refine lv_aload_n X.1 X.2.1 dX3_add_22 rfl (lv_at hl 1 rfl) ?_
      refine G_X3_r X hT Z dX3_add_23 ?_
      refine lv_iconst (v := 1) X.1 X.2.1 dX3_add_26 (by decide) ?_
      refine lv_iconst (v := 1) X.1 X.2.1 dX3_add_27 (by decide) ?_
      refine lv_aload_n X.1 X.2.1 dX3_add_28 rfl (lv_at hl 1 rfl) ?_
      refine G_X3_r X hT Z dX3_add_29 ?_
      refine lv_iconst (v := 1) X.1 X.2.1 dX3_add_32 (by decide) ?_
      refine L_X3_r (j := 1) X Z (vin_c (by decide)) (by decide) dX3_add_33 ?_
      refine lv_isub X.1 X.2.1 dX3_add_34 ?_
      refine S_X3_r (j := 1) X Z (vin_c (by decide)) (by decide) dX3_add_35 (fun H locs Z => ?_)
      exact K_36 (((mm 1 0) + a1) + (-4096)) (va_up mm 1 (upd (mm 1) 1 (1 - (mm 1 1)))) _ _ _ (if_neg c_13).symm (if_neg c_13).symm (lv_sub hl [0, 1, 2] rfl) Z
  intro j36_l2 j36_mm ls H locs e_j36_l2 e_j36_mm hl Z
  refine lv_aload_n X.1 X.2.1 dX3_add_36 rfl (lv_at hl 1 rfl) ?_
  refine G_X3_r X hT Z dX3_add_37 ?_
  refine lv_iconst (v := 0) X.1 X.2.1 dX3_add_40 (by decide) ?_
  refine lv_iload_n X.1 X.2.1 dX3_add_41 rfl (lv_at hl 0 rfl) ?_
  refine S_X3_r (j := 0) X Z (vin_c (by decide)) (by decide) dX3_add_42 (fun H locs Z => ?_)
  exact hret _ _ _ _ _ Z (mw_eq rfl (by subst e_j36_l2 e_j36_mm; exact rfl)) dX3_add_43
def uX3_place_j26_l3 (a1 : Int32) (a2 : Int32) : Int32 := if (rX3_has a1 128) = 0 then ((a1 - a1 / 128 * 128)) else (((a1 - a1 / 128 * 128) + (a2 - (a2 - a2 / 128 * 128))))
def uX3_place_j65_mm (mm : Nat → Nat → Int32) (j26_l3 : Int32) : Nat → Nat → Int32 := if j26_l3 < (8 : Int32) then (mm) else (if (15 : Int32) < j26_l3 then (mm) else ((va_up mm 0 (upd (mm 0) j26_l3.toNatClampNeg (rX3_after (mm 0 j26_l3.toNatClampNeg))))))
def mX3_place (g : Nat → Int32) (mm : Nat → Nat → Int32) (a1 : Int32) (a2 : Int32) : Nat → Nat → Int32 := let j26_l3 : Int32 := uX3_place_j26_l3 a1 a2; if (rX3_has a1 256) = 0 then (mm) else (let j65_mm : Nat → Nat → Int32 := uX3_place_j65_mm mm j26_l3; j65_mm)
def rX3_place (g : Nat → Int32) (mm : Nat → Nat → Int32) (a1 : Int32) (a2 : Int32) : Int32 := let j26_l3 : Int32 := uX3_place_j26_l3 a1 a2; if (rX3_has a1 256) = 0 then (j26_l3) else (let j65_mm : Nat → Nat → Int32 := uX3_place_j65_mm mm j26_l3; (j65_mm 0 j26_l3.toNatClampNeg))
set_option maxRecDepth 20000 in
set_option maxHeartbeats 4000000 in
theorem c_X3_place (l : Launch) (D : va_G) (cI : ClassId) (q : Nat → Nat) (g : Nat → Int32) (mm : Nat → Nat → Int32) (a1 : Int32) (a2 : Int32) (he : vp_in (uX3_place_j26_l3 a1 a2) 4096) : MI l D cI yX3_place (.code yX3_place cX3_place 4 (some .int)) ({ frames := 1, cells := 0, slots := 0, locals := 21 } : Room) [.ref (q 0), .int a1, .int a2] (mw q cI g mm) (mw q cI g (mX3_place g mm a1 a2)) (some (.int (rX3_place g mm a1 a2))) := by
  refine MI.ofI (own := RX3) (by decide) rfl (Nat.le_of_ble_eq_true rfl) ?_
  intro p e s m args below meth c A ls Q X Z hl hret
  have hT : ∀ w ∈ TB, w ∈ (Cond.code yX3_place cX3_place 4 (some .int) :: TB) := fun _ h => List.mem_cons_of_mem _ h
  have hl : lv_has ls 4 [(0, .ref (q 0)), (1, .int a1), (2, .int a2)] := hl
  refine lv_iload_n X.1 X.2.1 dX3_place_0 rfl (lv_at hl 1 rfl) ?_
  refine lv_sipush (v := 128) X.1 X.2.1 dX3_place_1 (by decide) ?_
  refine lv_irem X.1 X.2.1 dX3_place_4 (by decide) ?_
  refine lv_istore_n (lv' := [(3, .int (a1 - a1 / 128 * 128)), (0, .ref (q 0)), (1, .int a1), (2, .int a2)]) X.1 X.2.1 dX3_place_5 rfl hl (by decide) rfl (fun ls hl => ?_)
  refine lv_iload_n X.1 X.2.1 dX3_place_6 rfl (lv_at hl 2 rfl) ?_
  refine lv_sipush (v := 128) X.1 X.2.1 dX3_place_7 (by decide) ?_
  refine call_Si X hT Z k_X3_57 (c_X3_has l D cI (mw q cI g mm) a1 128 (by decide)) hd_X3_has ⟨by decide, by decide⟩ ⟨rfl, rfl⟩ hl.1 (rest := []) rfl (Nat.le_of_ble_eq_true rfl) ⟨by decide, by decide⟩ dX3_place_10 (fun H locs Z => ?_)
  suffices K_26 : ∀ (j26_l3 : Int32) (ls : Array Slot) (H : Heap) (locs : List Loc), j26_l3 = uX3_place_j26_l3 a1 a2 → lv_has ls 4 [(3, .int j26_l3), (0, .ref (q 0)), (1, .int a1), (2, .int a2)] → ZZ D cI (mw q cI g mm) A s H locs → W p l e ({ frames := 1, cells := 0, slots := 0, locals := 21 } : Room) s m args below meth c H locs 0 0 Q (F0 m 26 ls []) by
    refine lv_if_eq (tgt := 26) X.1 X.2.1 dX3_place_13 (by decide) (fun c_13 => ?_) (fun c_13 => ?_)
    · exact K_26 (a1 - a1 / 128 * 128) _ _ _ (if_pos c_13).symm (lv_sub hl [0, 1, 2, 3] rfl) Z
    · refine lv_iload_n X.1 X.2.1 dX3_place_16 rfl (lv_at hl 0 rfl) ?_
      refine lv_iload_n X.1 X.2.1 dX3_place_17 rfl (lv_at hl 3 rfl) ?_
      refine lv_iload_n X.1 X.2.1 dX3_place_18 rfl (lv_at hl 3 rfl) ?_
      refine lv_sipush (v := 128) X.1 X.2.1 dX3_place_19 (by decide) ?_
      refine lv_irem X.1 X.2.1 dX3_place_22 (by decide) ?_
      refine lv_isub X.1 X.2.1 dX3_place_23 ?_
      refine lv_iadd X.1 X.2.1 dX3_place_24 ?_
      refine lv_istore_n (lv' := [(3, .int ((a1 - a1 / 128 * 128) + (a2 - (a2 - a2 / 128 * 128)))), (0, .ref (q 0)), (1, .int a1), (2, .int a2)]) X.1 X.2.1 dX3_place_25 rfl hl (by decide) rfl (fun ls hl => ?_)
      exact K_26 ((a1 - a1 / 128 * 128) + (a2 - (a2 - a2 / 128 * 128))) _ _ _ (if_neg c_13).symm (lv_sub hl [0, 1, 2, 3] rfl) Z
  intro j26_l3 ls H locs e_j26_l3 hl Z
  refine lv_iload_n X.1 X.2.1 dX3_place_26 rfl (lv_at hl 2 rfl) ?_
  refine lv_sipush (v := 256) X.1 X.2.1 dX3_place_27 (by decide) ?_
  refine call_Si X hT Z k_X3_57 (c_X3_has l D cI (mw q cI g mm) a1 256 (by decide)) hd_X3_has ⟨by decide, by decide⟩ ⟨rfl, rfl⟩ hl.1 (rest := []) rfl (Nat.le_of_ble_eq_true rfl) ⟨by decide, by decide⟩ dX3_place_30 (fun H locs Z => ?_)
  refine lv_if_ne (tgt := 38) X.1 X.2.1 dX3_place_33 (by decide) (fun c_33 => ?_) (fun c_33 => ?_)
  · refine lv_iload_n X.1 X.2.1 dX3_place_38 rfl (lv_at hl 0 rfl) ?_
    refine lv_bipush (v := 8) X.1 X.2.1 dX3_place_39 (by decide) ?_
    suffices K_65 : ∀ (j65_mm : Nat → Nat → Int32) (ls : Array Slot) (H : Heap) (locs : List Loc), j65_mm = uX3_place_j65_mm mm j26_l3 → lv_has ls 4 [(3, .int j26_l3), (0, .ref (q 0)), (1, .int a1), (2, .int a2)] → ZZ D cI (mw q cI g j65_mm) A s H locs → W p l e ({ frames := 1, cells := 0, slots := 0, locals := 21 } : Room) s m args below meth c H locs 0 0 Q (F0 m 65 ls []) by
      refine lv_icmp_lt (tgt := 65) X.1 X.2.1 dX3_place_41 (by decide) (fun c_41 => ?_) (fun c_41 => ?_)
      · exact K_65 mm _ _ _ (if_pos c_41).symm (lv_sub hl [0, 1, 2, 3] rfl) Z
      · refine lv_iload_n X.1 X.2.1 dX3_place_44 rfl (lv_at hl 0 rfl) ?_
        refine lv_bipush (v := 15) X.1 X.2.1 dX3_place_45 (by decide) ?_
        refine lv_icmp_gt (tgt := 65) X.1 X.2.1 dX3_place_47 (by decide) (fun c_47 => ?_) (fun c_47 => ?_)
        · exact K_65 mm _ _ _ ((if_neg c_41).trans (if_pos c_47)).symm (lv_sub hl [0, 1, 2, 3] rfl) Z
        · refine lv_aload_n X.1 X.2.1 dX3_place_50 rfl (lv_at hl 1 rfl) ?_
          refine G_X3_core X hT Z dX3_place_51 ?_
          refine lv_iload_n X.1 X.2.1 dX3_place_54 rfl (lv_at hl 0 rfl) ?_
          refine lv_aload_n X.1 X.2.1 dX3_place_55 rfl (lv_at hl 1 rfl) ?_
          refine G_X3_core X hT Z dX3_place_56 ?_
          refine lv_iload_n X.1 X.2.1 dX3_place_59 rfl (lv_at hl 0 rfl) ?_
          refine L_X3_core (j := j26_l3.toNatClampNeg) X Z (by rw [e_j26_l3]; exact he) rfl dX3_place_60 ?_
          refine call_Si X hT Z k_X3_32 (c_X3_after l D cI (mw q cI g mm) (mm 0 j26_l3.toNatClampNeg) ) hd_X3_after ⟨by decide, by decide⟩ ⟨rfl, rfl⟩ hl.1 (rest := [.int j26_l3, .ref (q 1)]) rfl (Nat.le_of_ble_eq_true rfl) ⟨by decide, by decide⟩ dX3_place_61 (fun H locs Z => ?_)
          refine S_X3_core (j := j26_l3.toNatClampNeg) X Z (by rw [e_j26_l3]; exact he) rfl dX3_place_64 (fun H locs Z => ?_)
          exact K_65 (va_up mm 0 (upd (mm 0) j26_l3.toNatClampNeg (rX3_after (mm 0 j26_l3.toNatClampNeg)))) _ _ _ ((if_neg c_41).trans (if_neg c_47)).symm (lv_sub hl [0, 1, 2, 3] rfl) Z
    intro j65_mm ls H locs e_j65_mm hl Z
    refine lv_aload_n X.1 X.2.1 dX3_place_65 rfl (lv_at hl 1 rfl) ?_
    refine G_X3_core X hT Z dX3_place_66 ?_
    refine lv_iload_n X.1 X.2.1 dX3_place_69 rfl (lv_at hl 0 rfl) ?_
    refine L_X3_core (j := j26_l3.toNatClampNeg) X Z (by rw [e_j26_l3]; exact he) rfl dX3_place_70 ?_
    exact hret _ _ _ _ _ _ Z (mw_eq rfl (by subst e_j26_l3 e_j65_mm; exact (if_neg c_33).symm)) (by subst e_j26_l3 e_j65_mm; exact (if_neg c_33).symm) dX3_place_71
  · refine lv_iload_n X.1 X.2.1 dX3_place_36 rfl (lv_at hl 0 rfl) ?_
    exact hret _ _ _ _ _ _ Z (mw_eq rfl (by subst e_j26_l3; exact (if_pos c_33).symm)) (by subst e_j26_l3; exact (if_pos c_33).symm) dX3_place_37
def uX3_reference_j23_mm (mm : Nat → Nat → Int32) (a1 : Int32) (a2 : Int32) : Nat → Nat → Int32 := if a1 = 0 then ((va_up mm 1 (upd (mm 1) 0 ((mm 1 0) &&& (mm 0 a2.toNatClampNeg))))) else (mm)
def uX3_reference_j38_mm (g : Nat → Int32) (a1 : Int32) (a2 : Int32) (j23_mm : Nat → Nat → Int32) : Nat → Nat → Int32 := if a1 = 1 then ((mX3_add g j23_mm (j23_mm 0 a2.toNatClampNeg))) else (j23_mm)
def uX3_reference_j71_g (g : Nat → Int32) (a1 : Int32) (a2 : Int32) (j38_mm : Nat → Nat → Int32) : Nat → Int32 := if a1 = 2 then (if ((va_up j38_mm 0 (upd (j38_mm 0) a2.toNatClampNeg (rX3_after (j38_mm 0 a2.toNatClampNeg)))) 0 a2.toNatClampNeg) = 0 then ((gX3_skip g (va_up j38_mm 0 (upd (j38_mm 0) a2.toNatClampNeg (rX3_after (j38_mm 0 a2.toNatClampNeg)))))) else (g)) else (g)
def uX3_reference_j71_mm (g : Nat → Int32) (a1 : Int32) (a2 : Int32) (j38_mm : Nat → Nat → Int32) : Nat → Nat → Int32 := if a1 = 2 then (if ((va_up j38_mm 0 (upd (j38_mm 0) a2.toNatClampNeg (rX3_after (j38_mm 0 a2.toNatClampNeg)))) 0 a2.toNatClampNeg) = 0 then ((mX3_skip g (va_up j38_mm 0 (upd (j38_mm 0) a2.toNatClampNeg (rX3_after (j38_mm 0 a2.toNatClampNeg)))))) else ((va_up j38_mm 0 (upd (j38_mm 0) a2.toNatClampNeg (rX3_after (j38_mm 0 a2.toNatClampNeg)))))) else (j38_mm)
def uX3_reference_j95_mm (a1 : Int32) (a2 : Int32) (j71_mm : Nat → Nat → Int32) : Nat → Nat → Int32 := if a1 = 3 then ((va_up (va_up j71_mm 0 (upd (j71_mm 0) a2.toNatClampNeg (j71_mm 1 0))) 1 (upd ((va_up j71_mm 0 (upd (j71_mm 0) a2.toNatClampNeg (j71_mm 1 0))) 1) 0 0))) else (j71_mm)
def uX3_reference_j122_mm (a1 : Int32) (a2 : Int32) (j95_mm : Nat → Nat → Int32) : Nat → Nat → Int32 := if a1 = 4 then ((va_up (va_up j95_mm 0 (upd (j95_mm 0) a2.toNatClampNeg (j95_mm 1 2))) 1 (upd ((va_up j95_mm 0 (upd (j95_mm 0) a2.toNatClampNeg (j95_mm 1 2))) 1) 2 (rX3_after a2)))) else (j95_mm)
def uX3_reference_j134_mm (a1 : Int32) (a2 : Int32) (j122_mm : Nat → Nat → Int32) : Nat → Nat → Int32 := if a1 = 5 then ((va_up j122_mm 1 (upd (j122_mm 1) 2 a2))) else (j122_mm)
def gX3_reference (g : Nat → Int32) (mm : Nat → Nat → Int32) (a1 : Int32) (a2 : Int32) : Nat → Int32 := let j23_mm : Nat → Nat → Int32 := uX3_reference_j23_mm mm a1 a2; let j38_mm : Nat → Nat → Int32 := uX3_reference_j38_mm g a1 a2 j23_mm; let j71_g : Nat → Int32 := uX3_reference_j71_g g a1 a2 j38_mm; j71_g
def mX3_reference (g : Nat → Int32) (mm : Nat → Nat → Int32) (a1 : Int32) (a2 : Int32) : Nat → Nat → Int32 := let j23_mm : Nat → Nat → Int32 := uX3_reference_j23_mm mm a1 a2; let j38_mm : Nat → Nat → Int32 := uX3_reference_j38_mm g a1 a2 j23_mm; let j71_mm : Nat → Nat → Int32 := uX3_reference_j71_mm g a1 a2 j38_mm; let j95_mm : Nat → Nat → Int32 := uX3_reference_j95_mm a1 a2 j71_mm; let j122_mm : Nat → Nat → Int32 := uX3_reference_j122_mm a1 a2 j95_mm; let j134_mm : Nat → Nat → Int32 := uX3_reference_j134_mm a1 a2 j122_mm; j134_mm
set_option maxRecDepth 20000 in
set_option maxHeartbeats 4000000 in
theorem c_X3_reference (l : Launch) (D : va_G) (cI : ClassId) (q : Nat → Nat) (g : Nat → Int32) (mm : Nat → Nat → Int32) (a1 : Int32) (a2 : Int32) (he : vp_in a2 4096) : MI l D cI yX3_reference (.code yX3_reference cX3_reference 3 none) ({ frames := 2, cells := 0, slots := 0, locals := 40 } : Room) [.ref (q 0), .int a1, .int a2] (mw q cI g mm) (mw q cI (gX3_reference g mm a1 a2) (mX3_reference g mm a1 a2)) none := by
  refine MI.ofV (own := RX3) (by decide) rfl (Nat.le_of_ble_eq_true rfl) ?_
  intro p e s m args below meth c A ls Q X Z hl hret
  have hT : ∀ w ∈ TB, w ∈ (Cond.code yX3_reference cX3_reference 3 none :: TB) := fun _ h => List.mem_cons_of_mem _ h
  have hl : lv_has ls 3 [(0, .ref (q 0)), (1, .int a1), (2, .int a2)] := hl
  refine lv_iload_n X.1 X.2.1 dX3_reference_0 rfl (lv_at hl 1 rfl) ?_
  suffices K_23 : ∀ (j23_mm : Nat → Nat → Int32) (ls : Array Slot) (H : Heap) (locs : List Loc), j23_mm = uX3_reference_j23_mm mm a1 a2 → lv_has ls 3 [(0, .ref (q 0)), (1, .int a1), (2, .int a2)] → ZZ D cI (mw q cI g j23_mm) A s H locs → W p l e ({ frames := 2, cells := 0, slots := 0, locals := 40 } : Room) s m args below meth c H locs 0 0 Q (F0 m 23 ls []) by
    refine lv_if_ne (tgt := 23) X.1 X.2.1 dX3_reference_1 (by decide) (fun c_1 => ?_) (fun c_1 => ?_)
    · exact K_23 mm _ _ _ (if_neg c_1).symm (lv_sub hl [0, 1, 2] rfl) Z
    · refine lv_aload_n X.1 X.2.1 dX3_reference_4 rfl (lv_at hl 0 rfl) ?_
      refine G_X3_r X hT Z dX3_reference_5 ?_
      refine lv_iconst (v := 0) X.1 X.2.1 dX3_reference_8 (by decide) ?_
      refine lv_aload_n X.1 X.2.1 dX3_reference_9 rfl (lv_at hl 0 rfl) ?_
      refine G_X3_r X hT Z dX3_reference_10 ?_
      refine lv_iconst (v := 0) X.1 X.2.1 dX3_reference_13 (by decide) ?_
      refine L_X3_r (j := 0) X Z (vin_c (by decide)) (by decide) dX3_reference_14 ?_
      refine lv_aload_n X.1 X.2.1 dX3_reference_15 rfl (lv_at hl 0 rfl) ?_
      refine G_X3_core X hT Z dX3_reference_16 ?_
      refine lv_iload_n X.1 X.2.1 dX3_reference_19 rfl (lv_at hl 2 rfl) ?_
      refine L_X3_core (j := a2.toNatClampNeg) X Z he rfl dX3_reference_20 ?_
      refine lv_iand X.1 X.2.1 dX3_reference_21 ?_
      refine S_X3_r (j := 0) X Z (vin_c (by decide)) (by decide) dX3_reference_22 (fun H locs Z => ?_)
      exact K_23 (va_up mm 1 (upd (mm 1) 0 ((mm 1 0) &&& (mm 0 a2.toNatClampNeg)))) _ _ _ (if_pos c_1).symm (lv_sub hl [0, 1, 2] rfl) Z
  intro j23_mm ls H locs e_j23_mm hl Z
  refine lv_iload_n X.1 X.2.1 dX3_reference_23 rfl (lv_at hl 1 rfl) ?_
  refine lv_iconst (v := 1) X.1 X.2.1 dX3_reference_24 (by decide) ?_
  suffices K_38 : ∀ (j38_mm : Nat → Nat → Int32) (ls : Array Slot) (H : Heap) (locs : List Loc), j38_mm = uX3_reference_j38_mm g a1 a2 j23_mm → lv_has ls 3 [(0, .ref (q 0)), (1, .int a1), (2, .int a2)] → ZZ D cI (mw q cI g j38_mm) A s H locs → W p l e ({ frames := 2, cells := 0, slots := 0, locals := 40 } : Room) s m args below meth c H locs 0 0 Q (F0 m 38 ls []) by
    refine lv_icmp_ne (tgt := 38) X.1 X.2.1 dX3_reference_25 (by decide) (fun c_25 => ?_) (fun c_25 => ?_)
    · exact K_38 j23_mm _ _ _ (if_neg c_25).symm (lv_sub hl [0, 1, 2] rfl) Z
    · refine lv_aload_n X.1 X.2.1 dX3_reference_28 rfl (lv_at hl 0 rfl) ?_
      refine lv_aload_n X.1 X.2.1 dX3_reference_29 rfl (lv_at hl 0 rfl) ?_
      refine G_X3_core X hT Z dX3_reference_30 ?_
      refine lv_iload_n X.1 X.2.1 dX3_reference_33 rfl (lv_at hl 2 rfl) ?_
      refine L_X3_core (j := a2.toNatClampNeg) X Z he rfl dX3_reference_34 ?_
      refine call_Vv X hT Z (qq := (RX3, TX3, 11)) k_X3_70 (c_X3_add l D cI q g j23_mm (j23_mm 0 a2.toNatClampNeg) ) rfl rfl hd_X3_add ⟨by decide, by decide⟩ ⟨rfl, rfl⟩ hl.1 (rest := []) rfl (Nat.le_of_ble_eq_true rfl) ⟨by decide, by decide⟩ dX3_reference_35 (fun H locs Z => ?_)
      exact K_38 (mX3_add g j23_mm (j23_mm 0 a2.toNatClampNeg)) _ _ _ (if_pos c_25).symm (lv_sub hl [0, 1, 2] rfl) Z
  intro j38_mm ls H locs e_j38_mm hl Z
  refine lv_iload_n X.1 X.2.1 dX3_reference_38 rfl (lv_at hl 1 rfl) ?_
  refine lv_iconst (v := 2) X.1 X.2.1 dX3_reference_39 (by decide) ?_
  suffices K_71 : ∀ (j71_g : Nat → Int32) (j71_mm : Nat → Nat → Int32) (ls : Array Slot) (H : Heap) (locs : List Loc), j71_g = uX3_reference_j71_g g a1 a2 j38_mm → j71_mm = uX3_reference_j71_mm g a1 a2 j38_mm → lv_has ls 3 [(0, .ref (q 0)), (1, .int a1), (2, .int a2)] → ZZ D cI (mw q cI j71_g j71_mm) A s H locs → W p l e ({ frames := 2, cells := 0, slots := 0, locals := 40 } : Room) s m args below meth c H locs 0 0 Q (F0 m 71 ls []) by
    refine lv_icmp_ne (tgt := 71) X.1 X.2.1 dX3_reference_40 (by decide) (fun c_40 => ?_) (fun c_40 => ?_)
    · exact K_71 g j38_mm _ _ _ (if_neg c_40).symm (if_neg c_40).symm (lv_sub hl [0, 1, 2] rfl) Z
    · refine lv_aload_n X.1 X.2.1 dX3_reference_43 rfl (lv_at hl 0 rfl) ?_
      refine G_X3_core X hT Z dX3_reference_44 ?_
      refine lv_iload_n X.1 X.2.1 dX3_reference_47 rfl (lv_at hl 2 rfl) ?_
      refine lv_aload_n X.1 X.2.1 dX3_reference_48 rfl (lv_at hl 0 rfl) ?_
      refine G_X3_core X hT Z dX3_reference_49 ?_
      refine lv_iload_n X.1 X.2.1 dX3_reference_52 rfl (lv_at hl 2 rfl) ?_
      refine L_X3_core (j := a2.toNatClampNeg) X Z he rfl dX3_reference_53 ?_
      refine call_Si X hT Z k_X3_32 (c_X3_after l D cI (mw q cI g j38_mm) (j38_mm 0 a2.toNatClampNeg) ) hd_X3_after ⟨by decide, by decide⟩ ⟨rfl, rfl⟩ hl.1 (rest := [.int a2, .ref (q 1)]) rfl (Nat.le_of_ble_eq_true rfl) ⟨by decide, by decide⟩ dX3_reference_54 (fun H locs Z => ?_)
      refine S_X3_core (j := a2.toNatClampNeg) X Z he rfl dX3_reference_57 (fun H locs Z => ?_)
      refine lv_aload_n X.1 X.2.1 dX3_reference_58 rfl (lv_at hl 0 rfl) ?_
      refine G_X3_core X hT Z dX3_reference_59 ?_
      refine lv_iload_n X.1 X.2.1 dX3_reference_62 rfl (lv_at hl 2 rfl) ?_
      refine L_X3_core (j := a2.toNatClampNeg) X Z he rfl dX3_reference_63 ?_
      refine lv_if_ne (tgt := 71) X.1 X.2.1 dX3_reference_64 (by decide) (fun c_64 => ?_) (fun c_64 => ?_)
      · exact K_71 g (va_up j38_mm 0 (upd (j38_mm 0) a2.toNatClampNeg (rX3_after (j38_mm 0 a2.toNatClampNeg)))) _ _ _ ((if_pos c_40).trans (if_neg c_64)).symm ((if_pos c_40).trans (if_neg c_64)).symm (lv_sub hl [0, 1, 2] rfl) Z
      · refine lv_aload_n X.1 X.2.1 dX3_reference_67 rfl (lv_at hl 0 rfl) ?_
        refine call_Vv X hT Z (qq := (RX3, TX3, 11)) k_X3_73 (c_X3_skip l D cI q g (va_up j38_mm 0 (upd (j38_mm 0) a2.toNatClampNeg (rX3_after (j38_mm 0 a2.toNatClampNeg)))) ) rfl rfl hd_X3_skip ⟨by decide, by decide⟩ ⟨rfl, rfl⟩ hl.1 (rest := []) rfl (Nat.le_of_ble_eq_true rfl) ⟨by decide, by decide⟩ dX3_reference_68 (fun H locs Z => ?_)
        exact K_71 (gX3_skip g (va_up j38_mm 0 (upd (j38_mm 0) a2.toNatClampNeg (rX3_after (j38_mm 0 a2.toNatClampNeg))))) (mX3_skip g (va_up j38_mm 0 (upd (j38_mm 0) a2.toNatClampNeg (rX3_after (j38_mm 0 a2.toNatClampNeg))))) _ _ _ ((if_pos c_40).trans (if_pos c_64)).symm ((if_pos c_40).trans (if_pos c_64)).symm (lv_sub hl [0, 1, 2] rfl) Z
  intro j71_g j71_mm ls H locs e_j71_g e_j71_mm hl Z
  refine lv_iload_n X.1 X.2.1 dX3_reference_71 rfl (lv_at hl 1 rfl) ?_
  refine lv_iconst (v := 3) X.1 X.2.1 dX3_reference_72 (by decide) ?_
  suffices K_95 : ∀ (j95_mm : Nat → Nat → Int32) (ls : Array Slot) (H : Heap) (locs : List Loc), j95_mm = uX3_reference_j95_mm a1 a2 j71_mm → lv_has ls 3 [(0, .ref (q 0)), (1, .int a1), (2, .int a2)] → ZZ D cI (mw q cI j71_g j95_mm) A s H locs → W p l e ({ frames := 2, cells := 0, slots := 0, locals := 40 } : Room) s m args below meth c H locs 0 0 Q (F0 m 95 ls []) by
    refine lv_icmp_ne (tgt := 95) X.1 X.2.1 dX3_reference_73 (by decide) (fun c_73 => ?_) (fun c_73 => ?_)
    · exact K_95 j71_mm _ _ _ (if_neg c_73).symm (lv_sub hl [0, 1, 2] rfl) Z
    · refine lv_aload_n X.1 X.2.1 dX3_reference_76 rfl (lv_at hl 0 rfl) ?_
      refine G_X3_core X hT Z dX3_reference_77 ?_
      refine lv_iload_n X.1 X.2.1 dX3_reference_80 rfl (lv_at hl 2 rfl) ?_
      refine lv_aload_n X.1 X.2.1 dX3_reference_81 rfl (lv_at hl 0 rfl) ?_
      refine G_X3_r X hT Z dX3_reference_82 ?_
      refine lv_iconst (v := 0) X.1 X.2.1 dX3_reference_85 (by decide) ?_
      refine L_X3_r (j := 0) X Z (vin_c (by decide)) (by decide) dX3_reference_86 ?_
      refine S_X3_core (j := a2.toNatClampNeg) X Z he rfl dX3_reference_87 (fun H locs Z => ?_)
      refine lv_aload_n X.1 X.2.1 dX3_reference_88 rfl (lv_at hl 0 rfl) ?_
      refine G_X3_r X hT Z dX3_reference_89 ?_
      refine lv_iconst (v := 0) X.1 X.2.1 dX3_reference_92 (by decide) ?_
      refine lv_iconst (v := 0) X.1 X.2.1 dX3_reference_93 (by decide) ?_
      refine S_X3_r (j := 0) X Z (vin_c (by decide)) (by decide) dX3_reference_94 (fun H locs Z => ?_)
      exact K_95 (va_up (va_up j71_mm 0 (upd (j71_mm 0) a2.toNatClampNeg (j71_mm 1 0))) 1 (upd ((va_up j71_mm 0 (upd (j71_mm 0) a2.toNatClampNeg (j71_mm 1 0))) 1) 0 0)) _ _ _ (if_pos c_73).symm (lv_sub hl [0, 1, 2] rfl) Z
  intro j95_mm ls H locs e_j95_mm hl Z
  refine lv_iload_n X.1 X.2.1 dX3_reference_95 rfl (lv_at hl 1 rfl) ?_
  refine lv_iconst (v := 4) X.1 X.2.1 dX3_reference_96 (by decide) ?_
  suffices K_122 : ∀ (j122_mm : Nat → Nat → Int32) (ls : Array Slot) (H : Heap) (locs : List Loc), j122_mm = uX3_reference_j122_mm a1 a2 j95_mm → lv_has ls 3 [(0, .ref (q 0)), (1, .int a1), (2, .int a2)] → ZZ D cI (mw q cI j71_g j122_mm) A s H locs → W p l e ({ frames := 2, cells := 0, slots := 0, locals := 40 } : Room) s m args below meth c H locs 0 0 Q (F0 m 122 ls []) by
    refine lv_icmp_ne (tgt := 122) X.1 X.2.1 dX3_reference_97 (by decide) (fun c_97 => ?_) (fun c_97 => ?_)
    · exact K_122 j95_mm _ _ _ (if_neg c_97).symm (lv_sub hl [0, 1, 2] rfl) Z
    · refine lv_aload_n X.1 X.2.1 dX3_reference_100 rfl (lv_at hl 0 rfl) ?_
      refine G_X3_core X hT Z dX3_reference_101 ?_
      refine lv_iload_n X.1 X.2.1 dX3_reference_104 rfl (lv_at hl 2 rfl) ?_
      refine lv_aload_n X.1 X.2.1 dX3_reference_105 rfl (lv_at hl 0 rfl) ?_
      refine G_X3_r X hT Z dX3_reference_106 ?_
      refine lv_iconst (v := 2) X.1 X.2.1 dX3_reference_109 (by decide) ?_
      refine L_X3_r (j := 2) X Z (vin_c (by decide)) (by decide) dX3_reference_110 ?_
      refine S_X3_core (j := a2.toNatClampNeg) X Z he rfl dX3_reference_111 (fun H locs Z => ?_)
      refine lv_aload_n X.1 X.2.1 dX3_reference_112 rfl (lv_at hl 0 rfl) ?_
      refine G_X3_r X hT Z dX3_reference_113 ?_
      refine lv_iconst (v := 2) X.1 X.2.1 dX3_reference_116 (by decide) ?_
      refine lv_iload_n X.1 X.2.1 dX3_reference_117 rfl (lv_at hl 2 rfl) ?_
      refine call_Si X hT Z k_X3_32 (c_X3_after l D cI (mw q cI j71_g (va_up j95_mm 0 (upd (j95_mm 0) a2.toNatClampNeg (j95_mm 1 2)))) a2 ) hd_X3_after ⟨by decide, by decide⟩ ⟨rfl, rfl⟩ hl.1 (rest := [.int 2, .ref (q 2)]) rfl (Nat.le_of_ble_eq_true rfl) ⟨by decide, by decide⟩ dX3_reference_118 (fun H locs Z => ?_)
      refine S_X3_r (j := 2) X Z (vin_c (by decide)) (by decide) dX3_reference_121 (fun H locs Z => ?_)
      exact K_122 (va_up (va_up j95_mm 0 (upd (j95_mm 0) a2.toNatClampNeg (j95_mm 1 2))) 1 (upd ((va_up j95_mm 0 (upd (j95_mm 0) a2.toNatClampNeg (j95_mm 1 2))) 1) 2 (rX3_after a2))) _ _ _ (if_pos c_97).symm (lv_sub hl [0, 1, 2] rfl) Z
  intro j122_mm ls H locs e_j122_mm hl Z
  refine lv_iload_n X.1 X.2.1 dX3_reference_122 rfl (lv_at hl 1 rfl) ?_
  refine lv_iconst (v := 5) X.1 X.2.1 dX3_reference_123 (by decide) ?_
  suffices K_134 : ∀ (j134_mm : Nat → Nat → Int32) (ls : Array Slot) (H : Heap) (locs : List Loc), j134_mm = uX3_reference_j134_mm a1 a2 j122_mm → lv_has ls 3 [(0, .ref (q 0)), (1, .int a1), (2, .int a2)] → ZZ D cI (mw q cI j71_g j134_mm) A s H locs → W p l e ({ frames := 2, cells := 0, slots := 0, locals := 40 } : Room) s m args below meth c H locs 0 0 Q (F0 m 134 ls []) by
    refine lv_icmp_ne (tgt := 134) X.1 X.2.1 dX3_reference_124 (by decide) (fun c_124 => ?_) (fun c_124 => ?_)
    · exact K_134 j122_mm _ _ _ (if_neg c_124).symm (lv_sub hl [0, 1, 2] rfl) Z
    · refine lv_aload_n X.1 X.2.1 dX3_reference_127 rfl (lv_at hl 0 rfl) ?_
      refine G_X3_r X hT Z dX3_reference_128 ?_
      refine lv_iconst (v := 2) X.1 X.2.1 dX3_reference_131 (by decide) ?_
      refine lv_iload_n X.1 X.2.1 dX3_reference_132 rfl (lv_at hl 2 rfl) ?_
      refine S_X3_r (j := 2) X Z (vin_c (by decide)) (by decide) dX3_reference_133 (fun H locs Z => ?_)
      exact K_134 (va_up j122_mm 1 (upd (j122_mm 1) 2 a2)) _ _ _ (if_pos c_124).symm (lv_sub hl [0, 1, 2] rfl) Z
  intro j134_mm ls H locs e_j134_mm hl Z
  exact hret _ _ _ _ _ Z (mw_eq (by subst e_j23_mm e_j38_mm e_j71_g e_j71_mm e_j95_mm e_j122_mm e_j134_mm; exact rfl) (by subst e_j23_mm e_j38_mm e_j71_g e_j71_mm e_j95_mm e_j122_mm e_j134_mm; exact rfl)) dX3_reference_134
def uX3_second_j63_s0 (mm : Nat → Nat → Int32) (a1 : Int32) : Int32 := if (rX3_has a1 64) = 0 then (if (rX3_has a1 32) = 0 then (if (rX3_has a1 16) = 0 then (0) else (if (mm 1 1) = 1 then (1) else (0))) else (if (mm 1 0) = 0 then (1) else (if (rX3_has a1 16) = 0 then (0) else (if (mm 1 1) = 1 then (1) else (0))))) else (if (2048 : Int32) ≤ (mm 1 0) then (1) else (if (rX3_has a1 32) = 0 then (if (rX3_has a1 16) = 0 then (0) else (if (mm 1 1) = 1 then (1) else (0))) else (if (mm 1 0) = 0 then (1) else (if (rX3_has a1 16) = 0 then (0) else (if (mm 1 1) = 1 then (1) else (0))))))
def uX3_second_j78_g (g : Nat → Int32) (mm : Nat → Nat → Int32) (a1 : Int32) (j63_s0 : Int32) : Nat → Int32 := if j63_s0 = (rX3_has a1 8) then (g) else ((gX3_skip g mm))
def uX3_second_j78_mm (g : Nat → Int32) (mm : Nat → Nat → Int32) (a1 : Int32) (j63_s0 : Int32) : Nat → Nat → Int32 := if j63_s0 = (rX3_has a1 8) then (mm) else ((mX3_skip g mm))
def uX3_second_j95_mm (a1 : Int32) (j78_mm : Nat → Nat → Int32) : Nat → Nat → Int32 := if (rX3_has a1 128) = 0 then (j78_mm) else ((va_up j78_mm 1 (upd (j78_mm 1) 0 0)))
def uX3_second_j122_mm (a1 : Int32) (j95_mm : Nat → Nat → Int32) : Nat → Nat → Int32 := if (rX3_has a1 4) = 0 then (j95_mm) else ((va_up j95_mm 1 (upd (j95_mm 1) 0 ((j95_mm 1 0) ||| (j95_mm 1 4)))))
def uX3_second_j138_mm (a1 : Int32) (j122_mm : Nat → Nat → Int32) : Nat → Nat → Int32 := if (rX3_has a1 2) = 0 then (j122_mm) else ((va_up j122_mm 1 (upd (j122_mm 1) 10 1)))
def gX3_second (g : Nat → Int32) (mm : Nat → Nat → Int32) (a1 : Int32) : Nat → Int32 := let j63_s0 : Int32 := uX3_second_j63_s0 mm a1; let j78_g : Nat → Int32 := uX3_second_j78_g g mm a1 j63_s0; j78_g
def mX3_second (g : Nat → Int32) (mm : Nat → Nat → Int32) (a1 : Int32) : Nat → Nat → Int32 := let j63_s0 : Int32 := uX3_second_j63_s0 mm a1; let j78_mm : Nat → Nat → Int32 := uX3_second_j78_mm g mm a1 j63_s0; let j95_mm : Nat → Nat → Int32 := uX3_second_j95_mm a1 j78_mm; let j122_mm : Nat → Nat → Int32 := uX3_second_j122_mm a1 j95_mm; let j138_mm : Nat → Nat → Int32 := uX3_second_j138_mm a1 j122_mm; j138_mm
set_option maxRecDepth 20000 in
set_option maxHeartbeats 4000000 in
theorem c_X3_second (l : Launch) (D : va_G) (cI : ClassId) (q : Nat → Nat) (g : Nat → Int32) (mm : Nat → Nat → Int32) (a1 : Int32)  : MI l D cI yX3_second (.code yX3_second cX3_second 3 none) ({ frames := 2, cells := 0, slots := 0, locals := 40 } : Room) [.ref (q 0), .int a1] (mw q cI g mm) (mw q cI (gX3_second g mm a1) (mX3_second g mm a1)) none := by
  refine MI.ofV (own := RX3) (by decide) rfl (Nat.le_of_ble_eq_true rfl) ?_
  intro p e s m args below meth c A ls Q X Z hl hret
  have hT : ∀ w ∈ TB, w ∈ (Cond.code yX3_second cX3_second 3 none :: TB) := fun _ h => List.mem_cons_of_mem _ h
  have hl : lv_has ls 3 [(0, .ref (q 0)), (1, .int a1)] := hl
  refine lv_iload_n X.1 X.2.1 dX3_second_0 rfl (lv_at hl 1 rfl) ?_
  refine lv_bipush (v := 64) X.1 X.2.1 dX3_second_1 (by decide) ?_
  refine call_Si X hT Z k_X3_57 (c_X3_has l D cI (mw q cI g mm) a1 64 (by decide)) hd_X3_has ⟨by decide, by decide⟩ ⟨rfl, rfl⟩ hl.1 (rest := []) rfl (Nat.le_of_ble_eq_true rfl) ⟨by decide, by decide⟩ dX3_second_3 (fun H locs Z => ?_)
  suffices K_63 : ∀ (j63_s0 : Int32) (ls : Array Slot) (H : Heap) (locs : List Loc), j63_s0 = uX3_second_j63_s0 mm a1 → lv_has ls 3 [(0, .ref (q 0)), (1, .int a1)] → ZZ D cI (mw q cI g mm) A s H locs → W p l e ({ frames := 2, cells := 0, slots := 0, locals := 40 } : Room) s m args below meth c H locs 0 0 Q (F0 m 63 ls [.int j63_s0]) by
    refine lv_if_eq (tgt := 21) X.1 X.2.1 dX3_second_6 (by decide) (fun c_6 => ?_) (fun c_6 => ?_)
    · refine lv_iload_n X.1 X.2.1 dX3_second_21 rfl (lv_at hl 1 rfl) ?_
      refine lv_bipush (v := 32) X.1 X.2.1 dX3_second_22 (by decide) ?_
      refine call_Si X hT Z k_X3_57 (c_X3_has l D cI (mw q cI g mm) a1 32 (by decide)) hd_X3_has ⟨by decide, by decide⟩ ⟨rfl, rfl⟩ hl.1 (rest := []) rfl (Nat.le_of_ble_eq_true rfl) ⟨by decide, by decide⟩ dX3_second_24 (fun H locs Z => ?_)
      refine lv_if_eq (tgt := 39) X.1 X.2.1 dX3_second_27 (by decide) (fun c_27 => ?_) (fun c_27 => ?_)
      · refine lv_iload_n X.1 X.2.1 dX3_second_39 rfl (lv_at hl 1 rfl) ?_
        refine lv_bipush (v := 16) X.1 X.2.1 dX3_second_40 (by decide) ?_
        refine call_Si X hT Z k_X3_57 (c_X3_has l D cI (mw q cI g mm) a1 16 (by decide)) hd_X3_has ⟨by decide, by decide⟩ ⟨rfl, rfl⟩ hl.1 (rest := []) rfl (Nat.le_of_ble_eq_true rfl) ⟨by decide, by decide⟩ dX3_second_42 (fun H locs Z => ?_)
        refine lv_if_eq (tgt := 62) X.1 X.2.1 dX3_second_45 (by decide) (fun c_45 => ?_) (fun c_45 => ?_)
        · refine lv_iconst (v := 0) X.1 X.2.1 dX3_second_62 (by decide) ?_
          exact K_63 0 _ _ _ ((if_pos c_6).trans ((if_pos c_27).trans (if_pos c_45))).symm (lv_sub hl [0, 1] rfl) Z
        · refine lv_aload_n X.1 X.2.1 dX3_second_48 rfl (lv_at hl 0 rfl) ?_
          refine G_X3_r X hT Z dX3_second_49 ?_
          refine lv_iconst (v := 1) X.1 X.2.1 dX3_second_52 (by decide) ?_
          refine L_X3_r (j := 1) X Z (vin_c (by decide)) (by decide) dX3_second_53 ?_
          refine lv_iconst (v := 1) X.1 X.2.1 dX3_second_54 (by decide) ?_
          refine lv_icmp_ne (tgt := 62) X.1 X.2.1 dX3_second_55 (by decide) (fun c_55 => ?_) (fun c_55 => ?_)
          · refine lv_iconst (v := 0) X.1 X.2.1 dX3_second_62 (by decide) ?_
            exact K_63 0 _ _ _ ((if_pos c_6).trans ((if_pos c_27).trans ((if_neg c_45).trans (if_neg c_55)))).symm (lv_sub hl [0, 1] rfl) Z
          · refine lv_iconst (v := 1) X.1 X.2.1 dX3_second_58 (by decide) ?_
            refine lv_goto (tgt := 63) X.1 X.2.1 dX3_second_59 (by decide) ?_
            exact K_63 1 _ _ _ ((if_pos c_6).trans ((if_pos c_27).trans ((if_neg c_45).trans (if_pos c_55)))).symm (lv_sub hl [0, 1] rfl) Z
      · refine lv_aload_n X.1 X.2.1 dX3_second_30 rfl (lv_at hl 0 rfl) ?_
        refine G_X3_r X hT Z dX3_second_31 ?_
        refine lv_iconst (v := 0) X.1 X.2.1 dX3_second_34 (by decide) ?_
        refine L_X3_r (j := 0) X Z (vin_c (by decide)) (by decide) dX3_second_35 ?_
        refine lv_if_eq (tgt := 58) X.1 X.2.1 dX3_second_36 (by decide) (fun c_36 => ?_) (fun c_36 => ?_)
        · refine lv_iconst (v := 1) X.1 X.2.1 dX3_second_58 (by decide) ?_
          refine lv_goto (tgt := 63) X.1 X.2.1 dX3_second_59 (by decide) ?_
          exact K_63 1 _ _ _ ((if_pos c_6).trans ((if_neg c_27).trans (if_pos c_36))).symm (lv_sub hl [0, 1] rfl) Z
        · refine lv_iload_n X.1 X.2.1 dX3_second_39 rfl (lv_at hl 1 rfl) ?_
          refine lv_bipush (v := 16) X.1 X.2.1 dX3_second_40 (by decide) ?_
          refine call_Si X hT Z k_X3_57 (c_X3_has l D cI (mw q cI g mm) a1 16 (by decide)) hd_X3_has ⟨by decide, by decide⟩ ⟨rfl, rfl⟩ hl.1 (rest := []) rfl (Nat.le_of_ble_eq_true rfl) ⟨by decide, by decide⟩ dX3_second_42 (fun H locs Z => ?_)
          refine lv_if_eq (tgt := 62) X.1 X.2.1 dX3_second_45 (by decide) (fun c_45 => ?_) (fun c_45 => ?_)
          · refine lv_iconst (v := 0) X.1 X.2.1 dX3_second_62 (by decide) ?_
            exact K_63 0 _ _ _ ((if_pos c_6).trans ((if_neg c_27).trans ((if_neg c_36).trans (if_pos c_45)))).symm (lv_sub hl [0, 1] rfl) Z
          · refine lv_aload_n X.1 X.2.1 dX3_second_48 rfl (lv_at hl 0 rfl) ?_
            refine G_X3_r X hT Z dX3_second_49 ?_
            refine lv_iconst (v := 1) X.1 X.2.1 dX3_second_52 (by decide) ?_
            refine L_X3_r (j := 1) X Z (vin_c (by decide)) (by decide) dX3_second_53 ?_
            refine lv_iconst (v := 1) X.1 X.2.1 dX3_second_54 (by decide) ?_
            refine lv_icmp_ne (tgt := 62) X.1 X.2.1 dX3_second_55 (by decide) (fun c_55 => ?_) (fun c_55 => ?_)
            · refine lv_iconst (v := 0) X.1 X.2.1 dX3_second_62 (by decide) ?_
              exact K_63 0 _ _ _ ((if_pos c_6).trans ((if_neg c_27).trans ((if_neg c_36).trans ((if_neg c_45).trans (if_neg c_55))))).symm (lv_sub hl [0, 1] rfl) Z
            · refine lv_iconst (v := 1) X.1 X.2.1 dX3_second_58 (by decide) ?_
              refine lv_goto (tgt := 63) X.1 X.2.1 dX3_second_59 (by decide) ?_
              exact K_63 1 _ _ _ ((if_pos c_6).trans ((if_neg c_27).trans ((if_neg c_36).trans ((if_neg c_45).trans (if_pos c_55))))).symm (lv_sub hl [0, 1] rfl) Z
    · refine lv_aload_n X.1 X.2.1 dX3_second_9 rfl (lv_at hl 0 rfl) ?_
      refine G_X3_r X hT Z dX3_second_10 ?_
      refine lv_iconst (v := 0) X.1 X.2.1 dX3_second_13 (by decide) ?_
      refine L_X3_r (j := 0) X Z (vin_c (by decide)) (by decide) dX3_second_14 ?_
      refine lv_sipush (v := 2048) X.1 X.2.1 dX3_second_15 (by decide) ?_
      refine lv_icmp_ge (tgt := 58) X.1 X.2.1 dX3_second_18 (by decide) (fun c_18 => ?_) (fun c_18 => ?_)
      · refine lv_iconst (v := 1) X.1 X.2.1 dX3_second_58 (by decide) ?_
        refine lv_goto (tgt := 63) X.1 X.2.1 dX3_second_59 (by decide) ?_
        exact K_63 1 _ _ _ ((if_neg c_6).trans (if_pos c_18)).symm (lv_sub hl [0, 1] rfl) Z
      · refine lv_iload_n X.1 X.2.1 dX3_second_21 rfl (lv_at hl 1 rfl) ?_
        refine lv_bipush (v := 32) X.1 X.2.1 dX3_second_22 (by decide) ?_
        refine call_Si X hT Z k_X3_57 (c_X3_has l D cI (mw q cI g mm) a1 32 (by decide)) hd_X3_has ⟨by decide, by decide⟩ ⟨rfl, rfl⟩ hl.1 (rest := []) rfl (Nat.le_of_ble_eq_true rfl) ⟨by decide, by decide⟩ dX3_second_24 (fun H locs Z => ?_)
        refine lv_if_eq (tgt := 39) X.1 X.2.1 dX3_second_27 (by decide) (fun c_27 => ?_) (fun c_27 => ?_)
        · refine lv_iload_n X.1 X.2.1 dX3_second_39 rfl (lv_at hl 1 rfl) ?_
          refine lv_bipush (v := 16) X.1 X.2.1 dX3_second_40 (by decide) ?_
          refine call_Si X hT Z k_X3_57 (c_X3_has l D cI (mw q cI g mm) a1 16 (by decide)) hd_X3_has ⟨by decide, by decide⟩ ⟨rfl, rfl⟩ hl.1 (rest := []) rfl (Nat.le_of_ble_eq_true rfl) ⟨by decide, by decide⟩ dX3_second_42 (fun H locs Z => ?_)
          refine lv_if_eq (tgt := 62) X.1 X.2.1 dX3_second_45 (by decide) (fun c_45 => ?_) (fun c_45 => ?_)
          · refine lv_iconst (v := 0) X.1 X.2.1 dX3_second_62 (by decide) ?_
            exact K_63 0 _ _ _ ((if_neg c_6).trans ((if_neg c_18).trans ((if_pos c_27).trans (if_pos c_45)))).symm (lv_sub hl [0, 1] rfl) Z
          · refine lv_aload_n X.1 X.2.1 dX3_second_48 rfl (lv_at hl 0 rfl) ?_
            refine G_X3_r X hT Z dX3_second_49 ?_
            refine lv_iconst (v := 1) X.1 X.2.1 dX3_second_52 (by decide) ?_
            refine L_X3_r (j := 1) X Z (vin_c (by decide)) (by decide) dX3_second_53 ?_
            refine lv_iconst (v := 1) X.1 X.2.1 dX3_second_54 (by decide) ?_
            refine lv_icmp_ne (tgt := 62) X.1 X.2.1 dX3_second_55 (by decide) (fun c_55 => ?_) (fun c_55 => ?_)
            · refine lv_iconst (v := 0) X.1 X.2.1 dX3_second_62 (by decide) ?_
              exact K_63 0 _ _ _ ((if_neg c_6).trans ((if_neg c_18).trans ((if_pos c_27).trans ((if_neg c_45).trans (if_neg c_55))))).symm (lv_sub hl [0, 1] rfl) Z
            · refine lv_iconst (v := 1) X.1 X.2.1 dX3_second_58 (by decide) ?_
              refine lv_goto (tgt := 63) X.1 X.2.1 dX3_second_59 (by decide) ?_
              exact K_63 1 _ _ _ ((if_neg c_6).trans ((if_neg c_18).trans ((if_pos c_27).trans ((if_neg c_45).trans (if_pos c_55))))).symm (lv_sub hl [0, 1] rfl) Z
        · refine lv_aload_n X.1 X.2.1 dX3_second_30 rfl (lv_at hl 0 rfl) ?_
          refine G_X3_r X hT Z dX3_second_31 ?_
          refine lv_iconst (v := 0) X.1 X.2.1 dX3_second_34 (by decide) ?_
          refine L_X3_r (j := 0) X Z (vin_c (by decide)) (by decide) dX3_second_35 ?_
          refine lv_if_eq (tgt := 58) X.1 X.2.1 dX3_second_36 (by decide) (fun c_36 => ?_) (fun c_36 => ?_)
          · refine lv_iconst (v := 1) X.1 X.2.1 dX3_second_58 (by decide) ?_
            refine lv_goto (tgt := 63) X.1 X.2.1 dX3_second_59 (by decide) ?_
            exact K_63 1 _ _ _ ((if_neg c_6).trans ((if_neg c_18).trans ((if_neg c_27).trans (if_pos c_36)))).symm (lv_sub hl [0, 1] rfl) Z
          · refine lv_iload_n X.1 X.2.1 dX3_second_39 rfl (lv_at hl 1 rfl) ?_
            refine lv_bipush (v := 16) X.1 X.2.1 dX3_second_40 (by decide) ?_
            refine call_Si X hT Z k_X3_57 (c_X3_has l D cI (mw q cI g mm) a1 16 (by decide)) hd_X3_has ⟨by decide, by decide⟩ ⟨rfl, rfl⟩ hl.1 (rest := []) rfl (Nat.le_of_ble_eq_true rfl) ⟨by decide, by decide⟩ dX3_second_42 (fun H locs Z => ?_)
            refine lv_if_eq (tgt := 62) X.1 X.2.1 dX3_second_45 (by decide) (fun c_45 => ?_) (fun c_45 => ?_)
            · refine lv_iconst (v := 0) X.1 X.2.1 dX3_second_62 (by decide) ?_
              exact K_63 0 _ _ _ ((if_neg c_6).trans ((if_neg c_18).trans ((if_neg c_27).trans ((if_neg c_36).trans (if_pos c_45))))).symm (lv_sub hl [0, 1] rfl) Z
            · refine lv_aload_n X.1 X.2.1 dX3_second_48 rfl (lv_at hl 0 rfl) ?_
              refine G_X3_r X hT Z dX3_second_49 ?_
              refine lv_iconst (v := 1) X.1 X.2.1 dX3_second_52 (by decide) ?_
              refine L_X3_r (j := 1) X Z (vin_c (by decide)) (by decide) dX3_second_53 ?_
              refine lv_iconst (v := 1) X.1 X.2.1 dX3_second_54 (by decide) ?_
              refine lv_icmp_ne (tgt := 62) X.1 X.2.1 dX3_second_55 (by decide) (fun c_55 => ?_) (fun c_55 => ?_)
              · refine lv_iconst (v := 0) X.1 X.2.1 dX3_second_62 (by decide) ?_
                exact K_63 0 _ _ _ ((if_neg c_6).trans ((if_neg c_18).trans ((if_neg c_27).trans ((if_neg c_36).trans ((if_neg c_45).trans (if_neg c_55)))))).symm (lv_sub hl [0, 1] rfl) Z
              · refine lv_iconst (v := 1) X.1 X.2.1 dX3_second_58 (by decide) ?_
                refine lv_goto (tgt := 63) X.1 X.2.1 dX3_second_59 (by decide) ?_
                exact K_63 1 _ _ _ ((if_neg c_6).trans ((if_neg c_18).trans ((if_neg c_27).trans ((if_neg c_36).trans ((if_neg c_45).trans (if_pos c_55)))))).symm (lv_sub hl [0, 1] rfl) Z
  intro j63_s0 ls H locs e_j63_s0 hl Z
  refine lv_istore_n (lv' := [(2, .int j63_s0), (0, .ref (q 0)), (1, .int a1)]) X.1 X.2.1 dX3_second_63 rfl hl (by decide) rfl (fun ls hl => ?_)
  refine lv_iload_n X.1 X.2.1 dX3_second_64 rfl (lv_at hl 0 rfl) ?_
  refine lv_iload_n X.1 X.2.1 dX3_second_65 rfl (lv_at hl 2 rfl) ?_
  refine lv_bipush (v := 8) X.1 X.2.1 dX3_second_66 (by decide) ?_
  refine call_Si X hT Z k_X3_57 (c_X3_has l D cI (mw q cI g mm) a1 8 (by decide)) hd_X3_has ⟨by decide, by decide⟩ ⟨rfl, rfl⟩ hl.1 (rest := [.int j63_s0]) rfl (Nat.le_of_ble_eq_true rfl) ⟨by decide, by decide⟩ dX3_second_68 (fun H locs Z => ?_)
  suffices K_78 : ∀ (j78_g : Nat → Int32) (j78_mm : Nat → Nat → Int32) (ls : Array Slot) (H : Heap) (locs : List Loc), j78_g = uX3_second_j78_g g mm a1 j63_s0 → j78_mm = uX3_second_j78_mm g mm a1 j63_s0 → lv_has ls 3 [(2, .int j63_s0), (0, .ref (q 0)), (1, .int a1)] → ZZ D cI (mw q cI j78_g j78_mm) A s H locs → W p l e ({ frames := 2, cells := 0, slots := 0, locals := 40 } : Room) s m args below meth c H locs 0 0 Q (F0 m 78 ls []) by
    refine lv_icmp_eq (tgt := 78) X.1 X.2.1 dX3_second_71 (by decide) (fun c_71 => ?_) (fun c_71 => ?_)
    · exact K_78 g mm _ _ _ (if_pos c_71).symm (if_pos c_71).symm (lv_sub hl [0, 1, 2] rfl) Z
    · refine lv_aload_n X.1 X.2.1 dX3_second_74 rfl (lv_at hl 1 rfl) ?_
      refine call_Vv X hT Z (qq := (RX3, TX3, 11)) k_X3_73 (c_X3_skip l D cI q g mm ) rfl rfl hd_X3_skip ⟨by decide, by decide⟩ ⟨rfl, rfl⟩ hl.1 (rest := []) rfl (Nat.le_of_ble_eq_true rfl) ⟨by decide, by decide⟩ dX3_second_75 (fun H locs Z => ?_)
      exact K_78 (gX3_skip g mm) (mX3_skip g mm) _ _ _ (if_neg c_71).symm (if_neg c_71).symm (lv_sub hl [0, 1, 2] rfl) Z
  intro j78_g j78_mm ls H locs e_j78_g e_j78_mm hl Z
  refine lv_iload_n X.1 X.2.1 dX3_second_78 rfl (lv_at hl 2 rfl) ?_
  refine lv_sipush (v := 128) X.1 X.2.1 dX3_second_79 (by decide) ?_
  refine call_Si X hT Z k_X3_57 (c_X3_has l D cI (mw q cI j78_g j78_mm) a1 128 (by decide)) hd_X3_has ⟨by decide, by decide⟩ ⟨rfl, rfl⟩ hl.1 (rest := []) rfl (Nat.le_of_ble_eq_true rfl) ⟨by decide, by decide⟩ dX3_second_82 (fun H locs Z => ?_)
  suffices K_95 : ∀ (j95_mm : Nat → Nat → Int32) (ls : Array Slot) (H : Heap) (locs : List Loc), j95_mm = uX3_second_j95_mm a1 j78_mm → lv_has ls 3 [(2, .int j63_s0), (0, .ref (q 0)), (1, .int a1)] → ZZ D cI (mw q cI j78_g j95_mm) A s H locs → W p l e ({ frames := 2, cells := 0, slots := 0, locals := 40 } : Room) s m args below meth c H locs 0 0 Q (F0 m 95 ls []) by
    refine lv_if_eq (tgt := 95) X.1 X.2.1 dX3_second_85 (by decide) (fun c_85 => ?_) (fun c_85 => ?_)
    · exact K_95 j78_mm _ _ _ (if_pos c_85).symm (lv_sub hl [0, 1, 2] rfl) Z
    · refine lv_aload_n X.1 X.2.1 dX3_second_88 rfl (lv_at hl 1 rfl) ?_
      refine G_X3_r X hT Z dX3_second_89 ?_
      refine lv_iconst (v := 0) X.1 X.2.1 dX3_second_92 (by decide) ?_
      refine lv_iconst (v := 0) X.1 X.2.1 dX3_second_93 (by decide) ?_
      refine S_X3_r (j := 0) X Z (vin_c (by decide)) (by decide) dX3_second_94 (fun H locs Z => ?_)
      exact K_95 (va_up j78_mm 1 (upd (j78_mm 1) 0 0)) _ _ _ (if_neg c_85).symm (lv_sub hl [0, 1, 2] rfl) Z
  intro j95_mm ls H locs e_j95_mm hl Z
  refine lv_iload_n X.1 X.2.1 dX3_second_95 rfl (lv_at hl 2 rfl) ?_
  refine lv_iconst (v := 4) X.1 X.2.1 dX3_second_96 (by decide) ?_
  refine call_Si X hT Z k_X3_57 (c_X3_has l D cI (mw q cI j78_g j95_mm) a1 4 (by decide)) hd_X3_has ⟨by decide, by decide⟩ ⟨rfl, rfl⟩ hl.1 (rest := []) rfl (Nat.le_of_ble_eq_true rfl) ⟨by decide, by decide⟩ dX3_second_97 (fun H locs Z => ?_)
  suffices K_122 : ∀ (j122_mm : Nat → Nat → Int32) (ls : Array Slot) (H : Heap) (locs : List Loc), j122_mm = uX3_second_j122_mm a1 j95_mm → lv_has ls 3 [(2, .int j63_s0), (0, .ref (q 0)), (1, .int a1)] → ZZ D cI (mw q cI j78_g j122_mm) A s H locs → W p l e ({ frames := 2, cells := 0, slots := 0, locals := 40 } : Room) s m args below meth c H locs 0 0 Q (F0 m 122 ls []) by
    refine lv_if_eq (tgt := 122) X.1 X.2.1 dX3_second_100 (by decide) (fun c_100 => ?_) (fun c_100 => ?_)
    · exact K_122 j95_mm _ _ _ (if_pos c_100).symm (lv_sub hl [0, 1, 2] rfl) Z
    · refine lv_aload_n X.1 X.2.1 dX3_second_103 rfl (lv_at hl 1 rfl) ?_
      refine G_X3_r X hT Z dX3_second_104 ?_
      refine lv_iconst (v := 0) X.1 X.2.1 dX3_second_107 (by decide) ?_
      refine lv_aload_n X.1 X.2.1 dX3_second_108 rfl (lv_at hl 1 rfl) ?_
      refine G_X3_r X hT Z dX3_second_109 ?_
      refine lv_iconst (v := 0) X.1 X.2.1 dX3_second_112 (by decide) ?_
      refine L_X3_r (j := 0) X Z (vin_c (by decide)) (by decide) dX3_second_113 ?_
      refine lv_aload_n X.1 X.2.1 dX3_second_114 rfl (lv_at hl 1 rfl) ?_
      refine G_X3_r X hT Z dX3_second_115 ?_
      refine lv_iconst (v := 4) X.1 X.2.1 dX3_second_118 (by decide) ?_
      refine L_X3_r (j := 4) X Z (vin_c (by decide)) (by decide) dX3_second_119 ?_
      refine lv_ior X.1 X.2.1 dX3_second_120 ?_
      refine S_X3_r (j := 0) X Z (vin_c (by decide)) (by decide) dX3_second_121 (fun H locs Z => ?_)
      exact K_122 (va_up j95_mm 1 (upd (j95_mm 1) 0 ((j95_mm 1 0) ||| (j95_mm 1 4)))) _ _ _ (if_neg c_100).symm (lv_sub hl [0, 1, 2] rfl) Z
  intro j122_mm ls H locs e_j122_mm hl Z
  refine lv_iload_n X.1 X.2.1 dX3_second_122 rfl (lv_at hl 2 rfl) ?_
  refine lv_iconst (v := 2) X.1 X.2.1 dX3_second_123 (by decide) ?_
  refine call_Si X hT Z k_X3_57 (c_X3_has l D cI (mw q cI j78_g j122_mm) a1 2 (by decide)) hd_X3_has ⟨by decide, by decide⟩ ⟨rfl, rfl⟩ hl.1 (rest := []) rfl (Nat.le_of_ble_eq_true rfl) ⟨by decide, by decide⟩ dX3_second_124 (fun H locs Z => ?_)
  suffices K_138 : ∀ (j138_mm : Nat → Nat → Int32) (ls : Array Slot) (H : Heap) (locs : List Loc), j138_mm = uX3_second_j138_mm a1 j122_mm → lv_has ls 3 [(2, .int j63_s0), (0, .ref (q 0)), (1, .int a1)] → ZZ D cI (mw q cI j78_g j138_mm) A s H locs → W p l e ({ frames := 2, cells := 0, slots := 0, locals := 40 } : Room) s m args below meth c H locs 0 0 Q (F0 m 138 ls []) by
    refine lv_if_eq (tgt := 138) X.1 X.2.1 dX3_second_127 (by decide) (fun c_127 => ?_) (fun c_127 => ?_)
    · exact K_138 j122_mm _ _ _ (if_pos c_127).symm (lv_sub hl [0, 1, 2] rfl) Z
    · refine lv_aload_n X.1 X.2.1 dX3_second_130 rfl (lv_at hl 1 rfl) ?_
      refine G_X3_r X hT Z dX3_second_131 ?_
      refine lv_bipush (v := 10) X.1 X.2.1 dX3_second_134 (by decide) ?_
      refine lv_iconst (v := 1) X.1 X.2.1 dX3_second_136 (by decide) ?_
      refine S_X3_r (j := 10) X Z (vin_c (by decide)) (by decide) dX3_second_137 (fun H locs Z => ?_)
      exact K_138 (va_up j122_mm 1 (upd (j122_mm 1) 10 1)) _ _ _ (if_neg c_127).symm (lv_sub hl [0, 1, 2] rfl) Z
  intro j138_mm ls H locs e_j138_mm hl Z
  exact hret _ _ _ _ _ Z (mw_eq (by subst e_j63_s0 e_j78_g e_j78_mm e_j95_mm e_j122_mm e_j138_mm; exact rfl) (by subst e_j63_s0 e_j78_g e_j78_mm e_j95_mm e_j122_mm e_j138_mm; exact rfl)) dX3_second_138
def uX3_third_j20_s0 (mm : Nat → Nat → Int32) (a1 : Int32) : Int32 := if (rX3_has a1 128) = 0 then ((mm 1 0)) else (0)
def uX3_third_j84_s0 (mm : Nat → Nat → Int32) (a1 : Int32) (j20_s0 : Int32) : Int32 := if (rX3_has a1 16) = 0 then (if (rX3_has a1 16) = 0 then (if (rX3_has a1 64) = 0 then (j20_s0) else ((j20_s0 ||| (mm 1 3)))) else (0)) else (if (rX3_has a1 64) = 0 then (if (rX3_has a1 16) = 0 then (if (rX3_has a1 64) = 0 then (j20_s0) else ((j20_s0 ||| (mm 1 3)))) else (0)) else ((mm 1 3)))
def uX3_third_j100_s0 (mm : Nat → Nat → Int32) (a1 : Int32) (j20_s0 : Int32) : Int32 := if (rX3_has a1 16) = 0 then ((mm 1 3)) else (j20_s0)
def mX3_third (g : Nat → Int32) (mm : Nat → Nat → Int32) (a1 : Int32) : Nat → Nat → Int32 := let j20_s0 : Int32 := uX3_third_j20_s0 mm a1; let j84_s0 : Int32 := uX3_third_j84_s0 mm a1 j20_s0; let j100_s0 : Int32 := uX3_third_j100_s0 mm a1 j20_s0; (va_up (va_up mm 1 (upd (mm 1) 0 j84_s0)) 1 (upd ((va_up mm 1 (upd (mm 1) 0 j84_s0)) 1) 3 j100_s0))
set_option maxRecDepth 20000 in
set_option maxHeartbeats 4000000 in
theorem c_X3_third (l : Launch) (D : va_G) (cI : ClassId) (q : Nat → Nat) (g : Nat → Int32) (mm : Nat → Nat → Int32) (a1 : Int32)  : MI l D cI yX3_third (.code yX3_third cX3_third 6 none) ({ frames := 1, cells := 0, slots := 0, locals := 21 } : Room) [.ref (q 0), .int a1] (mw q cI g mm) (mw q cI g (mX3_third g mm a1)) none := by
  refine MI.ofV (own := RX3) (by decide) rfl (Nat.le_of_ble_eq_true rfl) ?_
  intro p e s m args below meth c A ls Q X Z hl hret
  have hT : ∀ w ∈ TB, w ∈ (Cond.code yX3_third cX3_third 6 none :: TB) := fun _ h => List.mem_cons_of_mem _ h
  have hl : lv_has ls 6 [(0, .ref (q 0)), (1, .int a1)] := hl
  refine lv_iload_n X.1 X.2.1 dX3_third_0 rfl (lv_at hl 1 rfl) ?_
  refine lv_sipush (v := 128) X.1 X.2.1 dX3_third_1 (by decide) ?_
  refine call_Si X hT Z k_X3_57 (c_X3_has l D cI (mw q cI g mm) a1 128 (by decide)) hd_X3_has ⟨by decide, by decide⟩ ⟨rfl, rfl⟩ hl.1 (rest := []) rfl (Nat.le_of_ble_eq_true rfl) ⟨by decide, by decide⟩ dX3_third_4 (fun H locs Z => ?_)
  suffices K_20 : ∀ (j20_s0 : Int32) (ls : Array Slot) (H : Heap) (locs : List Loc), j20_s0 = uX3_third_j20_s0 mm a1 → lv_has ls 6 [(0, .ref (q 0)), (1, .int a1)] → ZZ D cI (mw q cI g mm) A s H locs → W p l e ({ frames := 1, cells := 0, slots := 0, locals := 21 } : Room) s m args below meth c H locs 0 0 Q (F0 m 20 ls [.int j20_s0]) by
    refine lv_if_eq (tgt := 14) X.1 X.2.1 dX3_third_7 (by decide) (fun c_7 => ?_) (fun c_7 => ?_)
    · refine lv_aload_n X.1 X.2.1 dX3_third_14 rfl (lv_at hl 0 rfl) ?_
      refine G_X3_r X hT Z dX3_third_15 ?_
      refine lv_iconst (v := 0) X.1 X.2.1 dX3_third_18 (by decide) ?_
      refine L_X3_r (j := 0) X Z (vin_c (by decide)) (by decide) dX3_third_19 ?_
      exact K_20 (mm 1 0) _ _ _ (if_pos c_7).symm (lv_sub hl [0, 1] rfl) Z
    · refine lv_iconst (v := 0) X.1 X.2.1 dX3_third_10 (by decide) ?_
      refine lv_goto (tgt := 20) X.1 X.2.1 dX3_third_11 (by decide) ?_
      exact K_20 0 _ _ _ (if_neg c_7).symm (lv_sub hl [0, 1] rfl) Z
  intro j20_s0 ls H locs e_j20_s0 hl Z
  refine lv_istore_n (lv' := [(2, .int j20_s0), (0, .ref (q 0)), (1, .int a1)]) X.1 X.2.1 dX3_third_20 rfl hl (by decide) rfl (fun ls hl => ?_)
  refine lv_aload_n X.1 X.2.1 dX3_third_21 rfl (lv_at hl 1 rfl) ?_
  refine G_X3_r X hT Z dX3_third_22 ?_
  refine lv_iconst (v := 3) X.1 X.2.1 dX3_third_25 (by decide) ?_
  refine L_X3_r (j := 3) X Z (vin_c (by decide)) (by decide) dX3_third_26 ?_
  refine lv_istore_n (lv' := [(3, .int (mm 1 3)), (2, .int j20_s0), (0, .ref (q 0)), (1, .int a1)]) X.1 X.2.1 dX3_third_27 rfl hl (by decide) rfl (fun ls hl => ?_)
  refine lv_iload_n X.1 X.2.1 dX3_third_28 rfl (lv_at hl 3 rfl) ?_
  refine lv_bipush (v := 16) X.1 X.2.1 dX3_third_29 (by decide) ?_
  refine call_Si X hT Z k_X3_57 (c_X3_has l D cI (mw q cI g mm) a1 16 (by decide)) hd_X3_has ⟨by decide, by decide⟩ ⟨rfl, rfl⟩ hl.1 (rest := []) rfl (Nat.le_of_ble_eq_true rfl) ⟨by decide, by decide⟩ dX3_third_31 (fun H locs Z => ?_)
  refine lv_istore (lv' := [(4, .int (rX3_has a1 16)), (3, .int (mm 1 3)), (2, .int j20_s0), (0, .ref (q 0)), (1, .int a1)]) X.1 X.2.1 dX3_third_34 hl (by decide) rfl (fun ls hl => ?_)
  refine lv_iload_n X.1 X.2.1 dX3_third_36 rfl (lv_at hl 4 rfl) ?_
  refine lv_bipush (v := 64) X.1 X.2.1 dX3_third_37 (by decide) ?_
  refine call_Si X hT Z k_X3_57 (c_X3_has l D cI (mw q cI g mm) a1 64 (by decide)) hd_X3_has ⟨by decide, by decide⟩ ⟨rfl, rfl⟩ hl.1 (rest := []) rfl (Nat.le_of_ble_eq_true rfl) ⟨by decide, by decide⟩ dX3_third_39 (fun H locs Z => ?_)
  refine lv_istore (lv' := [(5, .int (rX3_has a1 64)), (4, .int (rX3_has a1 16)), (3, .int (mm 1 3)), (2, .int j20_s0), (0, .ref (q 0)), (1, .int a1)]) X.1 X.2.1 dX3_third_42 hl (by decide) rfl (fun ls hl => ?_)
  refine lv_aload_n X.1 X.2.1 dX3_third_44 rfl (lv_at hl 4 rfl) ?_
  refine G_X3_r X hT Z dX3_third_45 ?_
  refine lv_iconst (v := 0) X.1 X.2.1 dX3_third_48 (by decide) ?_
  refine lv_iload X.1 X.2.1 dX3_third_49 (lv_at hl 1 rfl) ?_
  suffices K_84 : ∀ (j84_s0 : Int32) (ls : Array Slot) (H : Heap) (locs : List Loc), j84_s0 = uX3_third_j84_s0 mm a1 j20_s0 → lv_has ls 6 [(5, .int (rX3_has a1 64)), (4, .int (rX3_has a1 16)), (3, .int (mm 1 3)), (2, .int j20_s0), (0, .ref (q 0)), (1, .int a1)] → ZZ D cI (mw q cI g mm) A s H locs → W p l e ({ frames := 1, cells := 0, slots := 0, locals := 21 } : Room) s m args below meth c H locs 0 0 Q (F0 m 84 ls [.int j84_s0, .int 0, .ref (q 2)]) by
    refine lv_if_eq (tgt := 63) X.1 X.2.1 dX3_third_51 (by decide) (fun c_51 => ?_) (fun c_51 => ?_)
    · refine lv_iload X.1 X.2.1 dX3_third_63 (lv_at hl 1 rfl) ?_
      refine lv_if_eq (tgt := 72) X.1 X.2.1 dX3_third_65 (by decide) (fun c_65 => ?_) (fun c_65 => ?_)
      · refine lv_iload X.1 X.2.1 dX3_third_72 (lv_at hl 0 rfl) ?_
        refine lv_if_eq (tgt := 83) X.1 X.2.1 dX3_third_74 (by decide) (fun c_74 => ?_) (fun c_74 => ?_)
        · refine lv_iload_n X.1 X.2.1 dX3_third_83 rfl (lv_at hl 3 rfl) ?_
          exact K_84 j20_s0 _ _ _ ((if_pos c_51).trans ((if_pos c_65).trans (if_pos c_74))).symm (lv_sub hl [0, 1, 2, 3, 4, 5] rfl) Z
        · refine lv_iload_n X.1 X.2.1 dX3_third_77 rfl (lv_at hl 3 rfl) ?_
          refine lv_iload_n X.1 X.2.1 dX3_third_78 rfl (lv_at hl 2 rfl) ?_
          refine lv_ior X.1 X.2.1 dX3_third_79 ?_
          refine lv_goto (tgt := 84) X.1 X.2.1 dX3_third_80 (by decide) ?_
          exact K_84 (j20_s0 ||| (mm 1 3)) _ _ _ ((if_pos c_51).trans ((if_pos c_65).trans (if_neg c_74))).symm (lv_sub hl [0, 1, 2, 3, 4, 5] rfl) Z
      · refine lv_iconst (v := 0) X.1 X.2.1 dX3_third_68 (by decide) ?_
        refine lv_goto (tgt := 84) X.1 X.2.1 dX3_third_69 (by decide) ?_
        exact K_84 0 _ _ _ ((if_pos c_51).trans (if_neg c_65)).symm (lv_sub hl [0, 1, 2, 3, 4, 5] rfl) Z
    · refine lv_iload X.1 X.2.1 dX3_third_54 (lv_at hl 0 rfl) ?_
      refine lv_if_eq (tgt := 63) X.1 X.2.1 dX3_third_56 (by decide) (fun c_56 => ?_) (fun c_56 => ?_)
      · refine lv_iload X.1 X.2.1 dX3_third_63 (lv_at hl 1 rfl) ?_
        refine lv_if_eq (tgt := 72) X.1 X.2.1 dX3_third_65 (by decide) (fun c_65 => ?_) (fun c_65 => ?_)
        · refine lv_iload X.1 X.2.1 dX3_third_72 (lv_at hl 0 rfl) ?_
          refine lv_if_eq (tgt := 83) X.1 X.2.1 dX3_third_74 (by decide) (fun c_74 => ?_) (fun c_74 => ?_)
          · refine lv_iload_n X.1 X.2.1 dX3_third_83 rfl (lv_at hl 3 rfl) ?_
            exact K_84 j20_s0 _ _ _ ((if_neg c_51).trans ((if_pos c_56).trans ((if_pos c_65).trans (if_pos c_74)))).symm (lv_sub hl [0, 1, 2, 3, 4, 5] rfl) Z
          · refine lv_iload_n X.1 X.2.1 dX3_third_77 rfl (lv_at hl 3 rfl) ?_
            refine lv_iload_n X.1 X.2.1 dX3_third_78 rfl (lv_at hl 2 rfl) ?_
            refine lv_ior X.1 X.2.1 dX3_third_79 ?_
            refine lv_goto (tgt := 84) X.1 X.2.1 dX3_third_80 (by decide) ?_
            exact K_84 (j20_s0 ||| (mm 1 3)) _ _ _ ((if_neg c_51).trans ((if_pos c_56).trans ((if_pos c_65).trans (if_neg c_74)))).symm (lv_sub hl [0, 1, 2, 3, 4, 5] rfl) Z
        · refine lv_iconst (v := 0) X.1 X.2.1 dX3_third_68 (by decide) ?_
          refine lv_goto (tgt := 84) X.1 X.2.1 dX3_third_69 (by decide) ?_
          exact K_84 0 _ _ _ ((if_neg c_51).trans ((if_pos c_56).trans (if_neg c_65))).symm (lv_sub hl [0, 1, 2, 3, 4, 5] rfl) Z
      · refine lv_iload_n X.1 X.2.1 dX3_third_59 rfl (lv_at hl 2 rfl) ?_
        refine lv_goto (tgt := 84) X.1 X.2.1 dX3_third_60 (by decide) ?_
        exact K_84 (mm 1 3) _ _ _ ((if_neg c_51).trans (if_neg c_56)).symm (lv_sub hl [0, 1, 2, 3, 4, 5] rfl) Z
  intro j84_s0 ls H locs e_j84_s0 hl Z
  refine S_X3_r (j := 0) X Z (vin_c (by decide)) (by decide) dX3_third_84 (fun H locs Z => ?_)
  refine lv_aload_n X.1 X.2.1 dX3_third_85 rfl (lv_at hl 4 rfl) ?_
  refine G_X3_r X hT Z dX3_third_86 ?_
  refine lv_iconst (v := 3) X.1 X.2.1 dX3_third_89 (by decide) ?_
  refine lv_iload X.1 X.2.1 dX3_third_90 (lv_at hl 1 rfl) ?_
  suffices K_100 : ∀ (j100_s0 : Int32) (ls : Array Slot) (H : Heap) (locs : List Loc), j100_s0 = uX3_third_j100_s0 mm a1 j20_s0 → lv_has ls 6 [(5, .int (rX3_has a1 64)), (4, .int (rX3_has a1 16)), (3, .int (mm 1 3)), (2, .int j20_s0), (0, .ref (q 0)), (1, .int a1)] → ZZ D cI (mw q cI g (va_up mm 1 (upd (mm 1) 0 j84_s0))) A s H locs → W p l e ({ frames := 1, cells := 0, slots := 0, locals := 21 } : Room) s m args below meth c H locs 0 0 Q (F0 m 100 ls [.int j100_s0, .int 3, .ref (q 2)]) by
    refine lv_if_eq (tgt := 99) X.1 X.2.1 dX3_third_92 (by decide) (fun c_92 => ?_) (fun c_92 => ?_)
    · refine lv_iload_n X.1 X.2.1 dX3_third_99 rfl (lv_at hl 2 rfl) ?_
      exact K_100 (mm 1 3) _ _ _ (if_pos c_92).symm (lv_sub hl [0, 1, 2, 3, 4, 5] rfl) Z
    · refine lv_iload_n X.1 X.2.1 dX3_third_95 rfl (lv_at hl 3 rfl) ?_
      refine lv_goto (tgt := 100) X.1 X.2.1 dX3_third_96 (by decide) ?_
      exact K_100 j20_s0 _ _ _ (if_neg c_92).symm (lv_sub hl [0, 1, 2, 3, 4, 5] rfl) Z
  intro j100_s0 ls H locs e_j100_s0 hl Z
  refine S_X3_r (j := 3) X Z (vin_c (by decide)) (by decide) dX3_third_100 (fun H locs Z => ?_)
  exact hret _ _ _ _ _ Z (mw_eq rfl (by subst e_j20_s0 e_j84_s0 e_j100_s0; exact rfl)) dX3_third_101
def gX3_feed (g : Nat → Int32) (mm : Nat → Nat → Int32) (a1 : Int32) : Nat → Int32 := if a1 < (0 : Int32) then (g) else (if (255 : Int32) < a1 then (g) else (if (g 0) = 400 then (g) else ((upd g 0 ((g 0) + 1)))))
def mX3_feed (g : Nat → Int32) (mm : Nat → Nat → Int32) (a1 : Int32) : Nat → Nat → Int32 := if a1 < (0 : Int32) then (mm) else (if (255 : Int32) < a1 then (mm) else (if (g 0) = 400 then (mm) else ((va_up mm 2 (upd (mm 2) ((g 0).toNatClampNeg) a1)))))
def rX3_feed (g : Nat → Int32) (mm : Nat → Nat → Int32) (a1 : Int32) : Int32 := if a1 < (0 : Int32) then (0) else (if (255 : Int32) < a1 then (0) else (if (g 0) = 400 then (0) else (1)))
set_option maxRecDepth 20000 in
set_option maxHeartbeats 4000000 in
theorem c_X3_feed (l : Launch) (D : va_G) (cI : ClassId) (q : Nat → Nat) (g : Nat → Int32) (mm : Nat → Nat → Int32) (a1 : Int32) (hf : ¬ g 0 = 400 → vp_in (g 0) 400) : MI l D cI yX3_feed (.code yX3_feed cX3_feed 2 (some .boolean)) ({ frames := 0, cells := 0, slots := 0, locals := 0 } : Room) [.ref (q 0), .int a1] (mw q cI g mm) (mw q cI (gX3_feed g mm a1) (mX3_feed g mm a1)) (some (.int (rX3_feed g mm a1))) := by
  refine MI.ofZ (own := RX3) (by decide) rfl (Nat.le_of_ble_eq_true rfl) ?_
  intro p e s m args below meth c A ls Q X Z hl hret
  have hT : ∀ w ∈ TB, w ∈ (Cond.code yX3_feed cX3_feed 2 (some .boolean) :: TB) := fun _ h => List.mem_cons_of_mem _ h
  have hl : lv_has ls 2 [(0, .ref (q 0)), (1, .int a1)] := hl
  refine lv_iload_n X.1 X.2.1 dX3_feed_0 rfl (lv_at hl 1 rfl) ?_
  refine lv_if_lt (tgt := 21) X.1 X.2.1 dX3_feed_1 (by decide) (fun c_1 => ?_) (fun c_1 => ?_)
  · refine lv_iconst (v := 0) X.1 X.2.1 dX3_feed_21 (by decide) ?_
    exact hret _ _ _ _ _ _ Z (mw_eq (if_pos c_1).symm (if_pos c_1).symm) (if_pos c_1).symm rfl dX3_feed_22
  · refine lv_iload_n X.1 X.2.1 dX3_feed_4 rfl (lv_at hl 1 rfl) ?_
    refine lv_sipush (v := 255) X.1 X.2.1 dX3_feed_5 (by decide) ?_
    refine lv_icmp_gt (tgt := 21) X.1 X.2.1 dX3_feed_8 (by decide) (fun c_8 => ?_) (fun c_8 => ?_)
    · refine lv_iconst (v := 0) X.1 X.2.1 dX3_feed_21 (by decide) ?_
      exact hret _ _ _ _ _ _ Z (mw_eq ((if_neg c_1).trans (if_pos c_8)).symm ((if_neg c_1).trans (if_pos c_8)).symm) ((if_neg c_1).trans (if_pos c_8)).symm rfl dX3_feed_22
    · refine lv_aload_n X.1 X.2.1 dX3_feed_11 rfl (lv_at hl 0 rfl) ?_
      refine G_X3_fed X hT Z dX3_feed_12 ?_
      refine lv_sipush (v := 400) X.1 X.2.1 dX3_feed_15 (by decide) ?_
      refine lv_icmp_ne (tgt := 23) X.1 X.2.1 dX3_feed_18 (by decide) (fun c_18 => ?_) (fun c_18 => ?_)
      · refine lv_aload_n X.1 X.2.1 dX3_feed_23 rfl (lv_at hl 0 rfl) ?_
        refine G_X3_tape X hT Z dX3_feed_24 ?_
        refine lv_aload_n X.1 X.2.1 dX3_feed_27 rfl (lv_at hl 0 rfl) ?_
        refine G_X3_fed X hT Z dX3_feed_28 ?_
        refine lv_iload_n X.1 X.2.1 dX3_feed_31 rfl (lv_at hl 1 rfl) ?_
        refine S_X3_tape (j := (g 0).toNatClampNeg) X Z (hf c_18) rfl dX3_feed_32 (fun H locs Z => ?_)
        refine lv_aload_n X.1 X.2.1 dX3_feed_33 rfl (lv_at hl 0 rfl) ?_
        refine lv_dup X.1 X.2.1 dX3_feed_34 rfl ?_
        refine G_X3_fed X hT Z dX3_feed_35 ?_
        refine lv_iconst (v := 1) X.1 X.2.1 dX3_feed_38 (by decide) ?_
        refine lv_iadd X.1 X.2.1 dX3_feed_39 ?_
        refine P_X3_fed X hT Z dX3_feed_40 (fun H locs Z => ?_)
        refine lv_iconst (v := 1) X.1 X.2.1 dX3_feed_43 (by decide) ?_
        exact hret _ _ _ _ _ _ Z (mw_eq ((if_neg c_1).trans ((if_neg c_8).trans (if_neg c_18))).symm ((if_neg c_1).trans ((if_neg c_8).trans (if_neg c_18))).symm) ((if_neg c_1).trans ((if_neg c_8).trans (if_neg c_18))).symm rfl dX3_feed_44
      · refine lv_iconst (v := 0) X.1 X.2.1 dX3_feed_21 (by decide) ?_
        exact hret _ _ _ _ _ _ Z (mw_eq ((if_neg c_1).trans ((if_neg c_8).trans (if_pos c_18))).symm ((if_neg c_1).trans ((if_neg c_8).trans (if_pos c_18))).symm) ((if_neg c_1).trans ((if_neg c_8).trans (if_pos c_18))).symm rfl dX3_feed_22
def rX3_waiting (g : Nat → Int32) (mm : Nat → Nat → Int32)  : Int32 := ((g 0) - (g 1))
set_option maxRecDepth 20000 in
set_option maxHeartbeats 4000000 in
theorem c_X3_waiting (l : Launch) (D : va_G) (cI : ClassId) (q : Nat → Nat) (g : Nat → Int32) (mm : Nat → Nat → Int32)   : MI l D cI yX3_waiting (.code yX3_waiting cX3_waiting 1 (some .int)) ({ frames := 0, cells := 0, slots := 0, locals := 0 } : Room) [.ref (q 0)] (mw q cI g mm) (mw q cI g mm) (some (.int (rX3_waiting g mm))) := by
  refine MI.ofI (own := RX3) (by decide) rfl (Nat.le_of_ble_eq_true rfl) ?_
  intro p e s m args below meth c A ls Q X Z hl hret
  have hT : ∀ w ∈ TB, w ∈ (Cond.code yX3_waiting cX3_waiting 1 (some .int) :: TB) := fun _ h => List.mem_cons_of_mem _ h
  have hl : lv_has ls 1 [(0, .ref (q 0))] := hl
  refine lv_aload_n X.1 X.2.1 dX3_waiting_0 rfl (lv_at hl 0 rfl) ?_
  refine G_X3_fed X hT Z dX3_waiting_1 ?_
  refine lv_aload_n X.1 X.2.1 dX3_waiting_4 rfl (lv_at hl 0 rfl) ?_
  refine G_X3_read X hT Z dX3_waiting_5 ?_
  refine lv_isub X.1 X.2.1 dX3_waiting_8 ?_
  exact hret _ _ _ _ _ _ Z (mw_eq rfl rfl) rfl dX3_waiting_9
def mX3_poke (g : Nat → Int32) (mm : Nat → Nat → Int32) (a1 : Int32) (a2 : Int32) : Nat → Nat → Int32 := if a1 < (0 : Int32) then (mm) else (if a1 ≤ (4095 : Int32) then ((va_up mm 0 (upd (mm 0) a1.toNatClampNeg (a2 &&& 4095)))) else (mm))
def rX3_poke (g : Nat → Int32) (mm : Nat → Nat → Int32) (a1 : Int32) (a2 : Int32) : Int32 := if a1 < (0 : Int32) then ((-1)) else (if a1 ≤ (4095 : Int32) then ((mm 0 a1.toNatClampNeg)) else ((-1)))
set_option maxRecDepth 20000 in
set_option maxHeartbeats 4000000 in
theorem c_X3_poke (l : Launch) (D : va_G) (cI : ClassId) (q : Nat → Nat) (g : Nat → Int32) (mm : Nat → Nat → Int32) (a1 : Int32) (a2 : Int32)  : MI l D cI yX3_poke (.code yX3_poke cX3_poke 4 (some .int)) ({ frames := 0, cells := 0, slots := 0, locals := 0 } : Room) [.ref (q 0), .int a1, .int a2] (mw q cI g mm) (mw q cI g (mX3_poke g mm a1 a2)) (some (.int (rX3_poke g mm a1 a2))) := by
  refine MI.ofI (own := RX3) (by decide) rfl (Nat.le_of_ble_eq_true rfl) ?_
  intro p e s m args below meth c A ls Q X Z hl hret
  have hT : ∀ w ∈ TB, w ∈ (Cond.code yX3_poke cX3_poke 4 (some .int) :: TB) := fun _ h => List.mem_cons_of_mem _ h
  have hl : lv_has ls 4 [(0, .ref (q 0)), (1, .int a1), (2, .int a2)] := hl
  refine lv_iload_n X.1 X.2.1 dX3_poke_0 rfl (lv_at hl 1 rfl) ?_
  refine lv_if_lt (tgt := 11) X.1 X.2.1 dX3_poke_1 (by decide) (fun c_1 => ?_) (fun c_1 => ?_)
  · refine lv_iconst (v := (-1)) X.1 X.2.1 dX3_poke_11 (by decide) ?_
    exact hret _ _ _ _ _ _ Z (mw_eq rfl (if_pos c_1).symm) (if_pos c_1).symm dX3_poke_12
  · refine lv_iload_n X.1 X.2.1 dX3_poke_4 rfl (lv_at hl 1 rfl) ?_
    refine lv_sipush (v := 4095) X.1 X.2.1 dX3_poke_5 (by decide) ?_
    refine lv_icmp_le (tgt := 13) X.1 X.2.1 dX3_poke_8 (by decide) (fun c_8 => ?_) (fun c_8 => ?_)
    · refine lv_aload_n X.1 X.2.1 dX3_poke_13 rfl (lv_at hl 0 rfl) ?_
      refine G_X3_core X hT Z dX3_poke_14 ?_
      refine lv_iload_n X.1 X.2.1 dX3_poke_17 rfl (lv_at hl 1 rfl) ?_
      refine L_X3_core (j := a1.toNatClampNeg) X Z (vin_of c_1 c_8 (by decide)) rfl dX3_poke_18 ?_
      refine lv_istore_n (lv' := [(3, .int (mm 0 a1.toNatClampNeg)), (0, .ref (q 0)), (1, .int a1), (2, .int a2)]) X.1 X.2.1 dX3_poke_19 rfl hl (by decide) rfl (fun ls hl => ?_)
      refine lv_aload_n X.1 X.2.1 dX3_poke_20 rfl (lv_at hl 1 rfl) ?_
      refine G_X3_core X hT Z dX3_poke_21 ?_
      refine lv_iload_n X.1 X.2.1 dX3_poke_24 rfl (lv_at hl 2 rfl) ?_
      refine lv_iload_n X.1 X.2.1 dX3_poke_25 rfl (lv_at hl 3 rfl) ?_
      refine lv_sipush (v := 4095) X.1 X.2.1 dX3_poke_26 (by decide) ?_
      refine lv_iand X.1 X.2.1 dX3_poke_29 ?_
      refine S_X3_core (j := a1.toNatClampNeg) X Z (vin_of c_1 c_8 (by decide)) rfl dX3_poke_30 (fun H locs Z => ?_)
      refine lv_iload_n X.1 X.2.1 dX3_poke_31 rfl (lv_at hl 0 rfl) ?_
      exact hret _ _ _ _ _ _ Z (mw_eq rfl ((if_neg c_1).trans (if_pos c_8)).symm) ((if_neg c_1).trans (if_pos c_8)).symm dX3_poke_32
    · refine lv_iconst (v := (-1)) X.1 X.2.1 dX3_poke_11 (by decide) ?_
      exact hret _ _ _ _ _ _ Z (mw_eq rfl ((if_neg c_1).trans (if_neg c_8)).symm) ((if_neg c_1).trans (if_neg c_8)).symm dX3_poke_12
def uX3_peek_j21_s0 (mm : Nat → Nat → Int32) (a1 : Int32) : Int32 := if a1 < (0 : Int32) then ((-1)) else (if a1 ≤ (4095 : Int32) then ((mm 0 a1.toNatClampNeg)) else ((-1)))
def rX3_peek (g : Nat → Int32) (mm : Nat → Nat → Int32) (a1 : Int32) : Int32 := let j21_s0 : Int32 := uX3_peek_j21_s0 mm a1; j21_s0
set_option maxRecDepth 20000 in
set_option maxHeartbeats 4000000 in
theorem c_X3_peek (l : Launch) (D : va_G) (cI : ClassId) (q : Nat → Nat) (g : Nat → Int32) (mm : Nat → Nat → Int32) (a1 : Int32)  : MI l D cI yX3_peek (.code yX3_peek cX3_peek 2 (some .int)) ({ frames := 0, cells := 0, slots := 0, locals := 0 } : Room) [.ref (q 0), .int a1] (mw q cI g mm) (mw q cI g mm) (some (.int (rX3_peek g mm a1))) := by
  refine MI.ofI (own := RX3) (by decide) rfl (Nat.le_of_ble_eq_true rfl) ?_
  intro p e s m args below meth c A ls Q X Z hl hret
  have hT : ∀ w ∈ TB, w ∈ (Cond.code yX3_peek cX3_peek 2 (some .int) :: TB) := fun _ h => List.mem_cons_of_mem _ h
  have hl : lv_has ls 2 [(0, .ref (q 0)), (1, .int a1)] := hl
  refine lv_iload_n X.1 X.2.1 dX3_peek_0 rfl (lv_at hl 1 rfl) ?_
  suffices K_21 : ∀ (j21_s0 : Int32) (ls : Array Slot) (H : Heap) (locs : List Loc), j21_s0 = uX3_peek_j21_s0 mm a1 → lv_has ls 2 [(0, .ref (q 0)), (1, .int a1)] → ZZ D cI (mw q cI g mm) A s H locs → W p l e ({ frames := 0, cells := 0, slots := 0, locals := 0 } : Room) s m args below meth c H locs 0 0 Q (F0 m 21 ls [.int j21_s0]) by
    refine lv_if_lt (tgt := 11) X.1 X.2.1 dX3_peek_1 (by decide) (fun c_1 => ?_) (fun c_1 => ?_)
    · refine lv_iconst (v := (-1)) X.1 X.2.1 dX3_peek_11 (by decide) ?_
      refine lv_goto (tgt := 21) X.1 X.2.1 dX3_peek_12 (by decide) ?_
      exact K_21 (-1) _ _ _ (if_pos c_1).symm (lv_sub hl [0, 1] rfl) Z
    · refine lv_iload_n X.1 X.2.1 dX3_peek_4 rfl (lv_at hl 1 rfl) ?_
      refine lv_sipush (v := 4095) X.1 X.2.1 dX3_peek_5 (by decide) ?_
      refine lv_icmp_le (tgt := 15) X.1 X.2.1 dX3_peek_8 (by decide) (fun c_8 => ?_) (fun c_8 => ?_)
      · refine lv_aload_n X.1 X.2.1 dX3_peek_15 rfl (lv_at hl 0 rfl) ?_
        refine G_X3_core X hT Z dX3_peek_16 ?_
        refine lv_iload_n X.1 X.2.1 dX3_peek_19 rfl (lv_at hl 1 rfl) ?_
        refine L_X3_core (j := a1.toNatClampNeg) X Z (vin_of c_1 c_8 (by decide)) rfl dX3_peek_20 ?_
        exact K_21 (mm 0 a1.toNatClampNeg) _ _ _ ((if_neg c_1).trans (if_pos c_8)).symm (lv_sub hl [0, 1] rfl) Z
      · refine lv_iconst (v := (-1)) X.1 X.2.1 dX3_peek_11 (by decide) ?_
        refine lv_goto (tgt := 21) X.1 X.2.1 dX3_peek_12 (by decide) ?_
        exact K_21 (-1) _ _ _ ((if_neg c_1).trans (if_neg c_8)).symm (lv_sub hl [0, 1] rfl) Z
  intro j21_s0 ls H locs e_j21_s0 hl Z
  exact hret _ _ _ _ _ _ Z (mw_eq rfl rfl) (by subst e_j21_s0; exact rfl) dX3_peek_21
def uX3_set_j32_s0 (a1 : Int32) (a2 : Int32) : Int32 := if a1 = 1 then ((a2 &&& 1)) else ((a2 &&& 4095))
def mX3_set (g : Nat → Int32) (mm : Nat → Nat → Int32) (a1 : Int32) (a2 : Int32) : Nat → Nat → Int32 := if a1 < (0 : Int32) then (mm) else (if a1 ≤ (4 : Int32) then (let j32_s0 : Int32 := uX3_set_j32_s0 a1 a2; (va_up mm 1 (upd (mm 1) a1.toNatClampNeg j32_s0))) else (mm))
def rX3_set (g : Nat → Int32) (mm : Nat → Nat → Int32) (a1 : Int32) (a2 : Int32) : Int32 := if a1 < (0 : Int32) then (0) else (if a1 ≤ (4 : Int32) then (1) else (0))
set_option maxRecDepth 20000 in
set_option maxHeartbeats 4000000 in
theorem c_X3_set (l : Launch) (D : va_G) (cI : ClassId) (q : Nat → Nat) (g : Nat → Int32) (mm : Nat → Nat → Int32) (a1 : Int32) (a2 : Int32)  : MI l D cI yX3_set (.code yX3_set cX3_set 3 (some .boolean)) ({ frames := 0, cells := 0, slots := 0, locals := 0 } : Room) [.ref (q 0), .int a1, .int a2] (mw q cI g mm) (mw q cI g (mX3_set g mm a1 a2)) (some (.int (rX3_set g mm a1 a2))) := by
  refine MI.ofZ (own := RX3) (by decide) rfl (Nat.le_of_ble_eq_true rfl) ?_
  intro p e s m args below meth c A ls Q X Z hl hret
  have hT : ∀ w ∈ TB, w ∈ (Cond.code yX3_set cX3_set 3 (some .boolean) :: TB) := fun _ h => List.mem_cons_of_mem _ h
  have hl : lv_has ls 3 [(0, .ref (q 0)), (1, .int a1), (2, .int a2)] := hl
  refine lv_iload_n X.1 X.2.1 dX3_set_0 rfl (lv_at hl 1 rfl) ?_
  refine lv_if_lt (tgt := 9) X.1 X.2.1 dX3_set_1 (by decide) (fun c_1 => ?_) (fun c_1 => ?_)
  · refine lv_iconst (v := 0) X.1 X.2.1 dX3_set_9 (by decide) ?_
    exact hret _ _ _ _ _ _ Z (mw_eq rfl (if_pos c_1).symm) (if_pos c_1).symm rfl dX3_set_10
  · refine lv_iload_n X.1 X.2.1 dX3_set_4 rfl (lv_at hl 1 rfl) ?_
    refine lv_iconst (v := 4) X.1 X.2.1 dX3_set_5 (by decide) ?_
    refine lv_icmp_le (tgt := 11) X.1 X.2.1 dX3_set_6 (by decide) (fun c_6 => ?_) (fun c_6 => ?_)
    · refine lv_aload_n X.1 X.2.1 dX3_set_11 rfl (lv_at hl 0 rfl) ?_
      refine G_X3_r X hT Z dX3_set_12 ?_
      refine lv_iload_n X.1 X.2.1 dX3_set_15 rfl (lv_at hl 1 rfl) ?_
      refine lv_iload_n X.1 X.2.1 dX3_set_16 rfl (lv_at hl 1 rfl) ?_
      refine lv_iconst (v := 1) X.1 X.2.1 dX3_set_17 (by decide) ?_
      suffices K_32 : ∀ (j32_s0 : Int32) (ls : Array Slot) (H : Heap) (locs : List Loc), j32_s0 = uX3_set_j32_s0 a1 a2 → lv_has ls 3 [(0, .ref (q 0)), (1, .int a1), (2, .int a2)] → ZZ D cI (mw q cI g mm) A s H locs → W p l e ({ frames := 0, cells := 0, slots := 0, locals := 0 } : Room) s m args below meth c H locs 0 0 Q (F0 m 32 ls [.int j32_s0, .int a1, .ref (q 2)]) by
        refine lv_icmp_ne (tgt := 27) X.1 X.2.1 dX3_set_18 (by decide) (fun c_18 => ?_) (fun c_18 => ?_)
        · refine lv_iload_n X.1 X.2.1 dX3_set_27 rfl (lv_at hl 2 rfl) ?_
          refine lv_sipush (v := 4095) X.1 X.2.1 dX3_set_28 (by decide) ?_
          refine lv_iand X.1 X.2.1 dX3_set_31 ?_
          exact K_32 (a2 &&& 4095) _ _ _ (if_neg c_18).symm (lv_sub hl [0, 1, 2] rfl) Z
        · refine lv_iload_n X.1 X.2.1 dX3_set_21 rfl (lv_at hl 2 rfl) ?_
          refine lv_iconst (v := 1) X.1 X.2.1 dX3_set_22 (by decide) ?_
          refine lv_iand X.1 X.2.1 dX3_set_23 ?_
          refine lv_goto (tgt := 32) X.1 X.2.1 dX3_set_24 (by decide) ?_
          exact K_32 (a2 &&& 1) _ _ _ (if_pos c_18).symm (lv_sub hl [0, 1, 2] rfl) Z
      intro j32_s0 ls H locs e_j32_s0 hl Z
      refine S_X3_r (j := a1.toNatClampNeg) X Z (vin_of c_1 c_6 (by decide)) rfl dX3_set_32 (fun H locs Z => ?_)
      refine lv_iconst (v := 1) X.1 X.2.1 dX3_set_33 (by decide) ?_
      exact hret _ _ _ _ _ _ Z (mw_eq rfl (by subst e_j32_s0; exact ((if_neg c_1).trans (if_pos c_6)).symm)) (by subst e_j32_s0; exact ((if_neg c_1).trans (if_pos c_6)).symm) rfl dX3_set_34
    · refine lv_iconst (v := 0) X.1 X.2.1 dX3_set_9 (by decide) ?_
      exact hret _ _ _ _ _ _ Z (mw_eq rfl ((if_neg c_1).trans (if_neg c_6)).symm) ((if_neg c_1).trans (if_neg c_6)).symm rfl dX3_set_10
def uX3_register_j20_s0 (mm : Nat → Nat → Int32) (a1 : Int32) : Int32 := if a1 < (0 : Int32) then ((-1)) else (if a1 ≤ (10 : Int32) then ((mm 1 a1.toNatClampNeg)) else ((-1)))
def rX3_register (g : Nat → Int32) (mm : Nat → Nat → Int32) (a1 : Int32) : Int32 := let j20_s0 : Int32 := uX3_register_j20_s0 mm a1; j20_s0
set_option maxRecDepth 20000 in
set_option maxHeartbeats 4000000 in
theorem c_X3_register (l : Launch) (D : va_G) (cI : ClassId) (q : Nat → Nat) (g : Nat → Int32) (mm : Nat → Nat → Int32) (a1 : Int32)  : MI l D cI yX3_register (.code yX3_register cX3_register 2 (some .int)) ({ frames := 0, cells := 0, slots := 0, locals := 0 } : Room) [.ref (q 0), .int a1] (mw q cI g mm) (mw q cI g mm) (some (.int (rX3_register g mm a1))) := by
  refine MI.ofI (own := RX3) (by decide) rfl (Nat.le_of_ble_eq_true rfl) ?_
  intro p e s m args below meth c A ls Q X Z hl hret
  have hT : ∀ w ∈ TB, w ∈ (Cond.code yX3_register cX3_register 2 (some .int) :: TB) := fun _ h => List.mem_cons_of_mem _ h
  have hl : lv_has ls 2 [(0, .ref (q 0)), (1, .int a1)] := hl
  refine lv_iload_n X.1 X.2.1 dX3_register_0 rfl (lv_at hl 1 rfl) ?_
  suffices K_20 : ∀ (j20_s0 : Int32) (ls : Array Slot) (H : Heap) (locs : List Loc), j20_s0 = uX3_register_j20_s0 mm a1 → lv_has ls 2 [(0, .ref (q 0)), (1, .int a1)] → ZZ D cI (mw q cI g mm) A s H locs → W p l e ({ frames := 0, cells := 0, slots := 0, locals := 0 } : Room) s m args below meth c H locs 0 0 Q (F0 m 20 ls [.int j20_s0]) by
    refine lv_if_lt (tgt := 10) X.1 X.2.1 dX3_register_1 (by decide) (fun c_1 => ?_) (fun c_1 => ?_)
    · refine lv_iconst (v := (-1)) X.1 X.2.1 dX3_register_10 (by decide) ?_
      refine lv_goto (tgt := 20) X.1 X.2.1 dX3_register_11 (by decide) ?_
      exact K_20 (-1) _ _ _ (if_pos c_1).symm (lv_sub hl [0, 1] rfl) Z
    · refine lv_iload_n X.1 X.2.1 dX3_register_4 rfl (lv_at hl 1 rfl) ?_
      refine lv_bipush (v := 10) X.1 X.2.1 dX3_register_5 (by decide) ?_
      refine lv_icmp_le (tgt := 14) X.1 X.2.1 dX3_register_7 (by decide) (fun c_7 => ?_) (fun c_7 => ?_)
      · refine lv_aload_n X.1 X.2.1 dX3_register_14 rfl (lv_at hl 0 rfl) ?_
        refine G_X3_r X hT Z dX3_register_15 ?_
        refine lv_iload_n X.1 X.2.1 dX3_register_18 rfl (lv_at hl 1 rfl) ?_
        refine L_X3_r (j := a1.toNatClampNeg) X Z (vin_of c_1 c_7 (by decide)) rfl dX3_register_19 ?_
        exact K_20 (mm 1 a1.toNatClampNeg) _ _ _ ((if_neg c_1).trans (if_pos c_7)).symm (lv_sub hl [0, 1] rfl) Z
      · refine lv_iconst (v := (-1)) X.1 X.2.1 dX3_register_10 (by decide) ?_
        refine lv_goto (tgt := 20) X.1 X.2.1 dX3_register_11 (by decide) ?_
        exact K_20 (-1) _ _ _ ((if_neg c_1).trans (if_neg c_7)).symm (lv_sub hl [0, 1] rfl) Z
  intro j20_s0 ls H locs e_j20_s0 hl Z
  exact hret _ _ _ _ _ _ Z (mw_eq rfl rfl) (by subst e_j20_s0; exact rfl) dX3_register_20
def uX3_go_j16_s0 (mm : Nat → Nat → Int32) : Int32 := if (mm 1 10) = 1 then (1) else (0)
def mX3_go (g : Nat → Int32) (mm : Nat → Nat → Int32)  : Nat → Nat → Int32 := (va_up mm 1 (upd (mm 1) 10 0))
def rX3_go (g : Nat → Int32) (mm : Nat → Nat → Int32)  : Int32 := let j16_s0 : Int32 := uX3_go_j16_s0 mm; j16_s0
set_option maxRecDepth 20000 in
set_option maxHeartbeats 4000000 in
theorem c_X3_go (l : Launch) (D : va_G) (cI : ClassId) (q : Nat → Nat) (g : Nat → Int32) (mm : Nat → Nat → Int32)   : MI l D cI yX3_go (.code yX3_go cX3_go 2 (some .boolean)) ({ frames := 0, cells := 0, slots := 0, locals := 0 } : Room) [.ref (q 0)] (mw q cI g mm) (mw q cI g (mX3_go g mm)) (some (.int (rX3_go g mm))) := by
  refine MI.ofZ (own := RX3) (by decide) rfl (Nat.le_of_ble_eq_true rfl) ?_
  intro p e s m args below meth c A ls Q X Z hl hret
  have hT : ∀ w ∈ TB, w ∈ (Cond.code yX3_go cX3_go 2 (some .boolean) :: TB) := fun _ h => List.mem_cons_of_mem _ h
  have hl : lv_has ls 2 [(0, .ref (q 0))] := hl
  refine lv_aload_n X.1 X.2.1 dX3_go_0 rfl (lv_at hl 0 rfl) ?_
  refine G_X3_r X hT Z dX3_go_1 ?_
  refine lv_bipush (v := 10) X.1 X.2.1 dX3_go_4 (by decide) ?_
  refine L_X3_r (j := 10) X Z (vin_c (by decide)) (by decide) dX3_go_6 ?_
  refine lv_iconst (v := 1) X.1 X.2.1 dX3_go_7 (by decide) ?_
  suffices K_16 : ∀ (j16_s0 : Int32) (ls : Array Slot) (H : Heap) (locs : List Loc), j16_s0 = uX3_go_j16_s0 mm → lv_has ls 2 [(0, .ref (q 0))] → ZZ D cI (mw q cI g mm) A s H locs → W p l e ({ frames := 0, cells := 0, slots := 0, locals := 0 } : Room) s m args below meth c H locs 0 0 Q (F0 m 16 ls [.int j16_s0]) by
    refine lv_icmp_ne (tgt := 15) X.1 X.2.1 dX3_go_8 (by decide) (fun c_8 => ?_) (fun c_8 => ?_)
    · refine lv_iconst (v := 0) X.1 X.2.1 dX3_go_15 (by decide) ?_
      exact K_16 0 _ _ _ (if_neg c_8).symm (lv_sub hl [0] rfl) Z
    · refine lv_iconst (v := 1) X.1 X.2.1 dX3_go_11 (by decide) ?_
      refine lv_goto (tgt := 16) X.1 X.2.1 dX3_go_12 (by decide) ?_
      exact K_16 1 _ _ _ (if_pos c_8).symm (lv_sub hl [0] rfl) Z
  intro j16_s0 ls H locs e_j16_s0 hl Z
  refine lv_istore_n (lv' := [(1, .int j16_s0), (0, .ref (q 0))]) X.1 X.2.1 dX3_go_16 rfl hl (by decide) rfl (fun ls hl => ?_)
  refine lv_aload_n X.1 X.2.1 dX3_go_17 rfl (lv_at hl 1 rfl) ?_
  refine G_X3_r X hT Z dX3_go_18 ?_
  refine lv_bipush (v := 10) X.1 X.2.1 dX3_go_21 (by decide) ?_
  refine lv_iconst (v := 0) X.1 X.2.1 dX3_go_23 (by decide) ?_
  refine S_X3_r (j := 10) X Z (vin_c (by decide)) (by decide) dX3_go_24 (fun H locs Z => ?_)
  refine lv_iload_n X.1 X.2.1 dX3_go_25 rfl (lv_at hl 0 rfl) ?_
  exact hret _ _ _ _ _ _ Z (mw_eq rfl (by subst e_j16_s0; exact rfl)) (by subst e_j16_s0; exact rfl) (by subst_vars; first | exact nb_if | exact nb_if2 | (unfold uX3_go_j16_s0; (repeat' split) <;> rfl)) dX3_go_26
def uX3_printed_j38_s0 (g : Nat → Int32) (mm : Nat → Nat → Int32) (a1 : Int32) : Int32 := if a1 < (0 : Int32) then ((-1)) else (if (63 : Int32) < a1 then ((-1)) else (if a1 < (g 2) then ((mm 3 a1.toNatClampNeg)) else ((-1))))
def rX3_printed (g : Nat → Int32) (mm : Nat → Nat → Int32) (a1 : Int32) : Int32 := if a1 = (-1) then ((g 2)) else (let j38_s0 : Int32 := uX3_printed_j38_s0 g mm a1; j38_s0)
set_option maxRecDepth 20000 in
set_option maxHeartbeats 4000000 in
theorem c_X3_printed (l : Launch) (D : va_G) (cI : ClassId) (q : Nat → Nat) (g : Nat → Int32) (mm : Nat → Nat → Int32) (a1 : Int32)  : MI l D cI yX3_printed (.code yX3_printed cX3_printed 2 (some .int)) ({ frames := 0, cells := 0, slots := 0, locals := 0 } : Room) [.ref (q 0), .int a1] (mw q cI g mm) (mw q cI g mm) (some (.int (rX3_printed g mm a1))) := by
  refine MI.ofI (own := RX3) (by decide) rfl (Nat.le_of_ble_eq_true rfl) ?_
  intro p e s m args below meth c A ls Q X Z hl hret
  have hT : ∀ w ∈ TB, w ∈ (Cond.code yX3_printed cX3_printed 2 (some .int) :: TB) := fun _ h => List.mem_cons_of_mem _ h
  have hl : lv_has ls 2 [(0, .ref (q 0)), (1, .int a1)] := hl
  refine lv_iload_n X.1 X.2.1 dX3_printed_0 rfl (lv_at hl 1 rfl) ?_
  refine lv_iconst (v := (-1)) X.1 X.2.1 dX3_printed_1 (by decide) ?_
  refine lv_icmp_ne (tgt := 10) X.1 X.2.1 dX3_printed_2 (by decide) (fun c_2 => ?_) (fun c_2 => ?_)
  · refine lv_iload_n X.1 X.2.1 dX3_printed_10 rfl (lv_at hl 1 rfl) ?_
    suffices K_38 : ∀ (j38_s0 : Int32) (ls : Array Slot) (H : Heap) (locs : List Loc), j38_s0 = uX3_printed_j38_s0 g mm a1 → lv_has ls 2 [(0, .ref (q 0)), (1, .int a1)] → ZZ D cI (mw q cI g mm) A s H locs → W p l e ({ frames := 0, cells := 0, slots := 0, locals := 0 } : Room) s m args below meth c H locs 0 0 Q (F0 m 38 ls [.int j38_s0]) by
      refine lv_if_lt (tgt := 28) X.1 X.2.1 dX3_printed_11 (by decide) (fun c_11 => ?_) (fun c_11 => ?_)
      · refine lv_iconst (v := (-1)) X.1 X.2.1 dX3_printed_28 (by decide) ?_
        refine lv_goto (tgt := 38) X.1 X.2.1 dX3_printed_29 (by decide) ?_
        exact K_38 (-1) _ _ _ (if_pos c_11).symm (lv_sub hl [0, 1] rfl) Z
      · refine lv_iload_n X.1 X.2.1 dX3_printed_14 rfl (lv_at hl 1 rfl) ?_
        refine lv_bipush (v := 63) X.1 X.2.1 dX3_printed_15 (by decide) ?_
        refine lv_icmp_gt (tgt := 28) X.1 X.2.1 dX3_printed_17 (by decide) (fun c_17 => ?_) (fun c_17 => ?_)
        · refine lv_iconst (v := (-1)) X.1 X.2.1 dX3_printed_28 (by decide) ?_
          refine lv_goto (tgt := 38) X.1 X.2.1 dX3_printed_29 (by decide) ?_
          exact K_38 (-1) _ _ _ ((if_neg c_11).trans (if_pos c_17)).symm (lv_sub hl [0, 1] rfl) Z
        · refine lv_iload_n X.1 X.2.1 dX3_printed_20 rfl (lv_at hl 1 rfl) ?_
          refine lv_aload_n X.1 X.2.1 dX3_printed_21 rfl (lv_at hl 0 rfl) ?_
          refine G_X3_printed X hT Z dX3_printed_22 ?_
          refine lv_icmp_lt (tgt := 32) X.1 X.2.1 dX3_printed_25 (by decide) (fun c_25 => ?_) (fun c_25 => ?_)
          · refine lv_aload_n X.1 X.2.1 dX3_printed_32 rfl (lv_at hl 0 rfl) ?_
            refine G_X3_out X hT Z dX3_printed_33 ?_
            refine lv_iload_n X.1 X.2.1 dX3_printed_36 rfl (lv_at hl 1 rfl) ?_
            refine L_X3_out (j := a1.toNatClampNeg) X Z (vin_nlt c_11 c_17 (by decide)) rfl dX3_printed_37 ?_
            exact K_38 (mm 3 a1.toNatClampNeg) _ _ _ ((if_neg c_11).trans ((if_neg c_17).trans (if_pos c_25))).symm (lv_sub hl [0, 1] rfl) Z
          · refine lv_iconst (v := (-1)) X.1 X.2.1 dX3_printed_28 (by decide) ?_
            refine lv_goto (tgt := 38) X.1 X.2.1 dX3_printed_29 (by decide) ?_
            exact K_38 (-1) _ _ _ ((if_neg c_11).trans ((if_neg c_17).trans (if_neg c_25))).symm (lv_sub hl [0, 1] rfl) Z
    intro j38_s0 ls H locs e_j38_s0 hl Z
    exact hret _ _ _ _ _ _ Z (mw_eq rfl rfl) (by subst e_j38_s0; exact (if_neg c_2).symm) dX3_printed_38
  · refine lv_aload_n X.1 X.2.1 dX3_printed_5 rfl (lv_at hl 0 rfl) ?_
    refine G_X3_printed X hT Z dX3_printed_6 ?_
    exact hret _ _ _ _ _ _ Z (mw_eq rfl rfl) (if_pos c_2).symm dX3_printed_9
def uX3_trace_j28_s0 (g : Nat → Int32) (mm : Nat → Nat → Int32) (a1 : Int32) : Int32 := if a1 < (0 : Int32) then ((-1)) else (if (63 : Int32) < a1 then ((-1)) else (if a1 < (g 3) then ((mm 4 a1.toNatClampNeg)) else ((-1))))
def rX3_trace (g : Nat → Int32) (mm : Nat → Nat → Int32) (a1 : Int32) : Int32 := let j28_s0 : Int32 := uX3_trace_j28_s0 g mm a1; j28_s0
set_option maxRecDepth 20000 in
set_option maxHeartbeats 4000000 in
theorem c_X3_trace (l : Launch) (D : va_G) (cI : ClassId) (q : Nat → Nat) (g : Nat → Int32) (mm : Nat → Nat → Int32) (a1 : Int32)  : MI l D cI yX3_trace (.code yX3_trace cX3_trace 2 (some .int)) ({ frames := 0, cells := 0, slots := 0, locals := 0 } : Room) [.ref (q 0), .int a1] (mw q cI g mm) (mw q cI g mm) (some (.int (rX3_trace g mm a1))) := by
  refine MI.ofI (own := RX3) (by decide) rfl (Nat.le_of_ble_eq_true rfl) ?_
  intro p e s m args below meth c A ls Q X Z hl hret
  have hT : ∀ w ∈ TB, w ∈ (Cond.code yX3_trace cX3_trace 2 (some .int) :: TB) := fun _ h => List.mem_cons_of_mem _ h
  have hl : lv_has ls 2 [(0, .ref (q 0)), (1, .int a1)] := hl
  refine lv_iload_n X.1 X.2.1 dX3_trace_0 rfl (lv_at hl 1 rfl) ?_
  suffices K_28 : ∀ (j28_s0 : Int32) (ls : Array Slot) (H : Heap) (locs : List Loc), j28_s0 = uX3_trace_j28_s0 g mm a1 → lv_has ls 2 [(0, .ref (q 0)), (1, .int a1)] → ZZ D cI (mw q cI g mm) A s H locs → W p l e ({ frames := 0, cells := 0, slots := 0, locals := 0 } : Room) s m args below meth c H locs 0 0 Q (F0 m 28 ls [.int j28_s0]) by
    refine lv_if_lt (tgt := 18) X.1 X.2.1 dX3_trace_1 (by decide) (fun c_1 => ?_) (fun c_1 => ?_)
    · refine lv_iconst (v := (-1)) X.1 X.2.1 dX3_trace_18 (by decide) ?_
      refine lv_goto (tgt := 28) X.1 X.2.1 dX3_trace_19 (by decide) ?_
      exact K_28 (-1) _ _ _ (if_pos c_1).symm (lv_sub hl [0, 1] rfl) Z
    · refine lv_iload_n X.1 X.2.1 dX3_trace_4 rfl (lv_at hl 1 rfl) ?_
      refine lv_bipush (v := 63) X.1 X.2.1 dX3_trace_5 (by decide) ?_
      refine lv_icmp_gt (tgt := 18) X.1 X.2.1 dX3_trace_7 (by decide) (fun c_7 => ?_) (fun c_7 => ?_)
      · refine lv_iconst (v := (-1)) X.1 X.2.1 dX3_trace_18 (by decide) ?_
        refine lv_goto (tgt := 28) X.1 X.2.1 dX3_trace_19 (by decide) ?_
        exact K_28 (-1) _ _ _ ((if_neg c_1).trans (if_pos c_7)).symm (lv_sub hl [0, 1] rfl) Z
      · refine lv_iload_n X.1 X.2.1 dX3_trace_10 rfl (lv_at hl 1 rfl) ?_
        refine lv_aload_n X.1 X.2.1 dX3_trace_11 rfl (lv_at hl 0 rfl) ?_
        refine G_X3_steps X hT Z dX3_trace_12 ?_
        refine lv_icmp_lt (tgt := 22) X.1 X.2.1 dX3_trace_15 (by decide) (fun c_15 => ?_) (fun c_15 => ?_)
        · refine lv_aload_n X.1 X.2.1 dX3_trace_22 rfl (lv_at hl 0 rfl) ?_
          refine G_X3_places X hT Z dX3_trace_23 ?_
          refine lv_iload_n X.1 X.2.1 dX3_trace_26 rfl (lv_at hl 1 rfl) ?_
          refine L_X3_places (j := a1.toNatClampNeg) X Z (vin_nlt c_1 c_7 (by decide)) rfl dX3_trace_27 ?_
          exact K_28 (mm 4 a1.toNatClampNeg) _ _ _ ((if_neg c_1).trans ((if_neg c_7).trans (if_pos c_15))).symm (lv_sub hl [0, 1] rfl) Z
        · refine lv_iconst (v := (-1)) X.1 X.2.1 dX3_trace_18 (by decide) ?_
          refine lv_goto (tgt := 28) X.1 X.2.1 dX3_trace_19 (by decide) ?_
          exact K_28 (-1) _ _ _ ((if_neg c_1).trans ((if_neg c_7).trans (if_neg c_15))).symm (lv_sub hl [0, 1] rfl) Z
  intro j28_s0 ls H locs e_j28_s0 hl Z
  exact hret _ _ _ _ _ _ Z (mw_eq rfl rfl) (by subst e_j28_s0; exact rfl) dX3_trace_28
def rX3_interrupts (g : Nat → Int32) (mm : Nat → Nat → Int32)  : Int32 := (g 4)
set_option maxRecDepth 20000 in
set_option maxHeartbeats 4000000 in
theorem c_X3_interrupts (l : Launch) (D : va_G) (cI : ClassId) (q : Nat → Nat) (g : Nat → Int32) (mm : Nat → Nat → Int32)   : MI l D cI yX3_interrupts (.code yX3_interrupts cX3_interrupts 1 (some .int)) ({ frames := 0, cells := 0, slots := 0, locals := 0 } : Room) [.ref (q 0)] (mw q cI g mm) (mw q cI g mm) (some (.int (rX3_interrupts g mm))) := by
  refine MI.ofI (own := RX3) (by decide) rfl (Nat.le_of_ble_eq_true rfl) ?_
  intro p e s m args below meth c A ls Q X Z hl hret
  have hT : ∀ w ∈ TB, w ∈ (Cond.code yX3_interrupts cX3_interrupts 1 (some .int) :: TB) := fun _ h => List.mem_cons_of_mem _ h
  have hl : lv_has ls 1 [(0, .ref (q 0))] := hl
  refine lv_aload_n X.1 X.2.1 dX3_interrupts_0 rfl (lv_at hl 0 rfl) ?_
  refine G_X3_interrupts X hT Z dX3_interrupts_1 ?_
  exact hret _ _ _ _ _ _ Z (mw_eq rfl rfl) rfl dX3_interrupts_4
def rX3_skips (g : Nat → Int32) (mm : Nat → Nat → Int32)  : Int32 := (g 5)
set_option maxRecDepth 20000 in
set_option maxHeartbeats 4000000 in
theorem c_X3_skips (l : Launch) (D : va_G) (cI : ClassId) (q : Nat → Nat) (g : Nat → Int32) (mm : Nat → Nat → Int32)   : MI l D cI yX3_skips (.code yX3_skips cX3_skips 1 (some .int)) ({ frames := 0, cells := 0, slots := 0, locals := 0 } : Room) [.ref (q 0)] (mw q cI g mm) (mw q cI g mm) (some (.int (rX3_skips g mm))) := by
  refine MI.ofI (own := RX3) (by decide) rfl (Nat.le_of_ble_eq_true rfl) ?_
  intro p e s m args below meth c A ls Q X Z hl hret
  have hT : ∀ w ∈ TB, w ∈ (Cond.code yX3_skips cX3_skips 1 (some .int) :: TB) := fun _ h => List.mem_cons_of_mem _ h
  have hl : lv_has ls 1 [(0, .ref (q 0))] := hl
  refine lv_aload_n X.1 X.2.1 dX3_skips_0 rfl (lv_at hl 0 rfl) ?_
  refine G_X3_skips X hT Z dX3_skips_1 ?_
  exact hret _ _ _ _ _ _ Z (mw_eq rfl rfl) rfl dX3_skips_4
