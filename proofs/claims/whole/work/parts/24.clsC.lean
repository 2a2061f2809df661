def uX2_step_j28_g (g : Nat → Int32) (mm : Nat → Nat → Int32) : Nat → Int32 := if (g 6) = 0 then (g) else (if (g 14) = 0 then (if (g 8) = 0 then (g) else ((gX2_interrupt g mm))) else ((gX2_interrupt g mm)))
def uX2_step_j28_mm (g : Nat → Int32) (mm : Nat → Nat → Int32) : Nat → Nat → Int32 := if (g 6) = 0 then (mm) else (if (g 14) = 0 then (if (g 8) = 0 then (mm) else ((mX2_interrupt g mm))) else ((mX2_interrupt g mm)))
def uX2_step_j45_g (j28_g : Nat → Int32) : Nat → Int32 := if (j28_g 7) = 0 then (j28_g) else ((upd (upd j28_g 7 0) 6 1))
def gX2_step (g : Nat → Int32) (mm : Nat → Nat → Int32)  : Nat → Int32 := let j28_g : Nat → Int32 := uX2_step_j28_g g mm; let j28_mm : Nat → Nat → Int32 := uX2_step_j28_mm g mm; let j45_g : Nat → Int32 := uX2_step_j45_g j28_g; (gX2_perform (upd (upd j45_g 16 (ctX1_add (j45_g 16) (j28_mm 3) (j45_g 2))) 2 (rX2_next (j45_g 2))) (va_up j28_mm 3 (rwX1_add (j45_g 16) (j28_mm 3) (j45_g 2))) (rX2_wordAt j45_g j28_mm (j45_g 2)) (j45_g 2))
def mX2_step (g : Nat → Int32) (mm : Nat → Nat → Int32)  : Nat → Nat → Int32 := let j28_g : Nat → Int32 := uX2_step_j28_g g mm; let j28_mm : Nat → Nat → Int32 := uX2_step_j28_mm g mm; let j45_g : Nat → Int32 := uX2_step_j45_g j28_g; (mX2_perform (upd (upd j45_g 16 (ctX1_add (j45_g 16) (j28_mm 3) (j45_g 2))) 2 (rX2_next (j45_g 2))) (va_up j28_mm 3 (rwX1_add (j45_g 16) (j28_mm 3) (j45_g 2))) (rX2_wordAt j45_g j28_mm (j45_g 2)) (j45_g 2))
theorem cq_28 {g : Nat → Int32} {mm : Nat → Nat → Int32} (h : Cq g) : Cq (uX2_step_j28_g g mm) := by
  unfold uX2_step_j28_g
  repeat' split
  all_goals exact h
theorem cq_45 {g : Nat → Int32} (h : Cq g) : Cq (uX2_step_j45_g g) := by
  unfold uX2_step_j45_g
  repeat' split
  all_goals exact h
set_option maxRecDepth 20000 in
set_option maxHeartbeats 4000000 in
theorem c_X2_step (l : Launch) (D : va_G) (cI : ClassId) (q : Nat → Nat) (g : Nat → Int32) (mm : Nat → Nat → Int32)  (hq : Cq g) : MI l D cI yX2_step (.code yX2_step cX2_step 3 none) ({ frames := 4, cells := 0, slots := 0, locals := 86 } : Room) [.ref (q 0)] (cw q cI g mm) (cw q cI (gX2_step g mm) (mX2_step g mm)) none := by
  refine MI.ofV (own := RX2) (by decide) rfl (Nat.le_of_ble_eq_true rfl) ?_
  intro p e s m args below meth c A ls Q X Z hl hret
  have hT : ∀ w ∈ TB, w ∈ (Cond.code yX2_step cX2_step 3 none :: TB) := fun _ h => List.mem_cons_of_mem _ h
  have hl : lv_has ls 3 [(0, .ref (q 0))] := hl
  refine lv_aload_n X.1 X.2.1 dX2_step_0 rfl (lv_at hl 0 rfl) ?_
  refine G_X2_ion X hT Z dX2_step_1 ?_
  suffices K_28 : ∀ (j28_g : Nat → Int32) (j28_mm : Nat → Nat → Int32) (ls : Array Slot) (H : Heap) (locs : List Loc), j28_g = uX2_step_j28_g g mm → j28_mm = uX2_step_j28_mm g mm → lv_has ls 3 [(0, .ref (q 0))] → ZZ D cI (cw q cI j28_g j28_mm) A s H locs → W p l e ({ frames := 4, cells := 0, slots := 0, locals := 86 } : Room) s m args below meth c H locs 0 0 Q (F0 m 28 ls []) by
    refine lv_if_eq (tgt := 28) X.1 X.2.1 dX2_step_4 (by decide) (fun c_4 => ?_) (fun c_4 => ?_)
    · exact K_28 g mm _ _ _ (if_pos c_4).symm (if_pos c_4).symm (lv_sub hl [0] rfl) Z
    · refine lv_aload_n X.1 X.2.1 dX2_step_7 rfl (lv_at hl 0 rfl) ?_
      refine G_X2_reader X hT Z dX2_step_8 ?_
      refine G_X2_r_flag X hT Z dX2_step_11 ?_
      refine lv_if_ne (tgt := 24) X.1 X.2.1 dX2_step_14 (by decide) (fun c_14 => ?_) (fun c_14 => ?_)
      · refine lv_aload_n X.1 X.2.1 dX2_step_24 rfl (lv_at hl 0 rfl) ?_
        refine call_Vv X hT Z (qq := (RX2, TX2, 15)) k_X2_106 (c_X2_interrupt l D cI q g mm ) rfl rfl hd_X2_interrupt ⟨by decide, by decide⟩ ⟨rfl, rfl⟩ hl.1 (rest := []) rfl (Nat.le_of_ble_eq_true rfl) ⟨by decide, by decide⟩ dX2_step_25 (fun H locs Z => ?_)
        exact K_28 (gX2_interrupt g mm) (mX2_interrupt g mm) _ _ _ ((if_neg c_4).trans (if_neg c_14)).symm ((if_neg c_4).trans (if_neg c_14)).symm (lv_sub hl [0] rfl) Z
      · refine lv_aload_n X.1 X.2.1 dX2_step_17 rfl (lv_at hl 0 rfl) ?_
        refine G_X2_printerFlag X hT Z dX2_step_18 ?_
        refine lv_if_eq (tgt := 28) X.1 X.2.1 dX2_step_21 (by decide) (fun c_21 => ?_) (fun c_21 => ?_)
        · exact K_28 g mm _ _ _ ((if_neg c_4).trans ((if_pos c_14).trans (if_pos c_21))).symm ((if_neg c_4).trans ((if_pos c_14).trans (if_pos c_21))).symm (lv_sub hl [0] rfl) Z
        · refine lv_aload_n X.1 X.2.1 dX2_step_24 rfl (lv_at hl 0 rfl) ?_
          refine call_Vv X hT Z (qq := (RX2, TX2, 15)) k_X2_106 (c_X2_interrupt l D cI q g mm ) rfl rfl hd_X2_interrupt ⟨by decide, by decide⟩ ⟨rfl, rfl⟩ hl.1 (rest := []) rfl (Nat.le_of_ble_eq_true rfl) ⟨by decide, by decide⟩ dX2_step_25 (fun H locs Z => ?_)
          exact K_28 (gX2_interrupt g mm) (mX2_interrupt g mm) _ _ _ ((if_neg c_4).trans ((if_pos c_14).trans (if_neg c_21))).symm ((if_neg c_4).trans ((if_pos c_14).trans (if_neg c_21))).symm (lv_sub hl [0] rfl) Z
  intro j28_g j28_mm ls H locs e_j28_g e_j28_mm hl Z
  refine lv_aload_n X.1 X.2.1 dX2_step_28 rfl (lv_at hl 0 rfl) ?_
  refine G_X2_delay X hT Z dX2_step_29 ?_
  suffices K_45 : ∀ (j45_g : Nat → Int32) (ls : Array Slot) (H : Heap) (locs : List Loc), j45_g = uX2_step_j45_g j28_g → lv_has ls 3 [(0, .ref (q 0))] → ZZ D cI (cw q cI j45_g j28_mm) A s H locs → W p l e ({ frames := 4, cells := 0, slots := 0, locals := 86 } : Room) s m args below meth c H locs 0 0 Q (F0 m 45 ls []) by
    refine lv_if_eq (tgt := 45) X.1 X.2.1 dX2_step_32 (by decide) (fun c_32 => ?_) (fun c_32 => ?_)
    · exact K_45 j28_g _ _ _ (if_pos c_32).symm (lv_sub hl [0] rfl) Z
    · refine lv_aload_n X.1 X.2.1 dX2_step_35 rfl (lv_at hl 0 rfl) ?_
      refine lv_iconst (v := 0) X.1 X.2.1 dX2_step_36 (by decide) ?_
      refine P_X2_delay X hT Z ⟨rfl, rfl⟩ dX2_step_37 (fun H locs Z => ?_)
      refine lv_aload_n X.1 X.2.1 dX2_step_40 rfl (lv_at hl 0 rfl) ?_
      refine lv_iconst (v := 1) X.1 X.2.1 dX2_step_41 (by decide) ?_
      refine P_X2_ion X hT Z ⟨rfl, rfl⟩ dX2_step_42 (fun H locs Z => ?_)
      exact K_45 (upd (upd j28_g 7 0) 6 1) _ _ _ (if_neg c_32).symm (lv_sub hl [0] rfl) Z
  intro j45_g ls H locs e_j45_g hl Z
  refine lv_aload_n X.1 X.2.1 dX2_step_45 rfl (lv_at hl 0 rfl) ?_
  refine G_X2_pc X hT Z dX2_step_46 ?_
  refine lv_istore_n (lv' := [(1, .int (j45_g 2)), (0, .ref (q 0))]) X.1 X.2.1 dX2_step_49 rfl hl (by decide) rfl (fun ls hl => ?_)
  refine lv_aload_n X.1 X.2.1 dX2_step_50 rfl (lv_at hl 1 rfl) ?_
  refine lv_iload_n X.1 X.2.1 dX2_step_51 rfl (lv_at hl 0 rfl) ?_
  refine call_Vi X hT Z (qq := (RX2, TX2, 15)) k_X2_41 (c_X2_wordAt l D cI q j45_g j28_mm (j45_g 2) ) rfl rfl hd_X2_wordAt ⟨by decide, by decide⟩ ⟨rfl, rfl⟩ hl.1 (rest := []) rfl (Nat.le_of_ble_eq_true rfl) ⟨by decide, by decide⟩ dX2_step_52 (fun H locs Z => ?_)
  refine lv_istore_n (lv' := [(2, .int (rX2_wordAt j45_g j28_mm (j45_g 2))), (1, .int (j45_g 2)), (0, .ref (q 0))]) X.1 X.2.1 dX2_step_55 rfl hl (by decide) rfl (fun ls hl => ?_)
  refine lv_aload_n X.1 X.2.1 dX2_step_56 rfl (lv_at hl 2 rfl) ?_
  refine G_X2_steps X hT Z dX2_step_57 ?_
  refine lv_iload_n X.1 X.2.1 dX2_step_60 rfl (lv_at hl 1 rfl) ?_
  refine call_Nv X hT Z (wc := rcw (q 4) (q 7) cI (j45_g 16) (j28_mm 3)) (wr := [(q 0, .inr (2, [.ref (q 1), .ref (q 2), .ref (q 3), .ref (q 4), .int (j45_g 0), .int (j45_g 1), .int (j45_g 2), .int (j45_g 3), .int (j45_g 4), .int (j45_g 5), .int (j45_g 6), .int (j45_g 7), .int (j45_g 8), .int (j45_g 9), .int (j45_g 10)])), (q 1, .inl (cI, 4096, .inl (j28_mm 0))), (q 2, .inr (0, [.ref (q 5), .int (j45_g 11), .int (j45_g 12), .int (j45_g 13), .int (j45_g 14)])), (q 5, .inl (cI, 400, .inl (j28_mm 1))), (q 3, .inr (1, [.ref (q 6), .int (j45_g 15)])), (q 6, .inl (cI, 64, .inl (j28_mm 2)))]) [6, 7] [0, 1, 2, 3, 4, 5] rfl rfl rfl rfl (by decide) (qq := (RX1, TX1, 2)) k_X2_109 (c_X1_add l D cI (q 4) (q 7) (j45_g 16) (j28_mm 3) (j45_g 2) ) rfl rfl hd_X1_add ⟨by decide, by decide⟩ ⟨rfl, rfl⟩ hl.1 (rest := []) rfl (Nat.le_of_ble_eq_true rfl) ⟨by decide, by decide⟩ dX2_step_61 (fun H locs Z => ?_)
  have Z := Z.perm (ws' := cw q cI (upd j45_g 16 (ctX1_add (j45_g 16) (j28_mm 3) (j45_g 2))) (va_up j28_mm 3 (rwX1_add (j45_g 16) (j28_mm 3) (j45_g 2)))) [0, 1, 2, 3, 4, 5, 6, 7] rfl rfl
  refine lv_aload_n X.1 X.2.1 dX2_step_64 rfl (lv_at hl 2 rfl) ?_
  refine lv_iload_n X.1 X.2.1 dX2_step_65 rfl (lv_at hl 1 rfl) ?_
  refine call_Si X hT Z k_X2_103 (c_X2_next l D cI (cw q cI (upd j45_g 16 (ctX1_add (j45_g 16) (j28_mm 3) (j45_g 2))) (va_up j28_mm 3 (rwX1_add (j45_g 16) (j28_mm 3) (j45_g 2)))) (j45_g 2) ) hd_X2_next ⟨by decide, by decide⟩ ⟨rfl, rfl⟩ hl.1 (rest := [.ref (q 0)]) rfl (Nat.le_of_ble_eq_true rfl) ⟨by decide, by decide⟩ dX2_step_66 (fun H locs Z => ?_)
  refine P_X2_pc X hT Z dX2_step_69 (fun H locs Z => ?_)
  refine lv_aload_n X.1 X.2.1 dX2_step_72 rfl (lv_at hl 2 rfl) ?_
  refine lv_iload_n X.1 X.2.1 dX2_step_73 rfl (lv_at hl 0 rfl) ?_
  refine lv_iload_n X.1 X.2.1 dX2_step_74 rfl (lv_at hl 1 rfl) ?_
  refine call_Vv X hT Z (qq := (RX2, TX2, 15)) k_X2_113 (c_X2_perform l D cI q (upd (upd j45_g 16 (ctX1_add (j45_g 16) (j28_mm 3) (j45_g 2))) 2 (rX2_next (j45_g 2))) (va_up j28_mm 3 (rwX1_add (j45_g 16) (j28_mm 3) (j45_g 2))) (rX2_wordAt j45_g j28_mm (j45_g 2)) (j45_g 2) (by subst e_j45_g e_j28_g; exact cq_45 (cq_28 hq))) rfl rfl hd_X2_perform ⟨by decide, by decide⟩ ⟨rfl, rfl⟩ hl.1 (rest := []) rfl (Nat.le_of_ble_eq_true rfl) ⟨by decide, by decide⟩ dX2_step_75 (fun H locs Z => ?_)
  exact hret _ _ _ _ _ Z (cw_eq (by subst e_j28_g e_j28_mm e_j45_g; exact rfl) (by subst e_j28_g e_j28_mm e_j45_g; exact rfl)) dX2_step_78
def gX2_feed (g : Nat → Int32) (mm : Nat → Nat → Int32) (a1 : Int32) : Nat → Int32 := (upd g 11 (fdX0_append (g 11) (g 12) (g 13) (g 14) (mm 1) a1))
def mX2_feed (g : Nat → Int32) (mm : Nat → Nat → Int32) (a1 : Int32) : Nat → Nat → Int32 := (va_up mm 1 (tpX0_append (g 11) (g 12) (g 13) (g 14) (mm 1) a1))
def rX2_feed (g : Nat → Int32) (mm : Nat → Nat → Int32) (a1 : Int32) : Int32 := (rX0_append (g 11) (g 12) (g 13) (g 14) (mm 1) a1)
set_option maxRecDepth 20000 in
set_option maxHeartbeats 4000000 in
theorem c_X2_feed (l : Launch) (D : va_G) (cI : ClassId) (q : Nat → Nat) (g : Nat → Int32) (mm : Nat → Nat → Int32) (a1 : Int32) (hf : ¬ g 11 < 0) : MI l D cI yX2_feed (.code yX2_feed cX2_feed 2 (some .boolean)) ({ frames := 1, cells := 0, slots := 0, locals := 21 } : Room) [.ref (q 0), .int a1] (cw q cI g mm) (cw q cI (gX2_feed g mm a1) (mX2_feed g mm a1)) (some (.int (rX2_feed g mm a1))) := by
  refine MI.ofZ (own := RX2) (by decide) rfl (Nat.le_of_ble_eq_true rfl) ?_
  intro p e s m args below meth c A ls Q X Z hl hret
  have hT : ∀ w ∈ TB, w ∈ (Cond.code yX2_feed cX2_feed 2 (some .boolean) :: TB) := fun _ h => List.mem_cons_of_mem _ h
  have hl : lv_has ls 2 [(0, .ref (q 0)), (1, .int a1)] := hl
  refine lv_aload_n X.1 X.2.1 dX2_feed_0 rfl (lv_at hl 0 rfl) ?_
  refine G_X2_reader X hT Z dX2_feed_1 ?_
  refine lv_iload_n X.1 X.2.1 dX2_feed_4 rfl (lv_at hl 1 rfl) ?_
  refine call_Ni X hT Z (wc := rdw (q 2) (q 5) cI (g 11) (g 12) (g 13) (g 14) (mm 1)) (wr := [(q 0, .inr (2, [.ref (q 1), .ref (q 2), .ref (q 3), .ref (q 4), .int (g 0), .int (g 1), .int (g 2), .int (g 3), .int (g 4), .int (g 5), .int (g 6), .int (g 7), .int (g 8), .int (g 9), .int (g 10)])), (q 1, .inl (cI, 4096, .inl (mm 0))), (q 3, .inr (1, [.ref (q 6), .int (g 15)])), (q 6, .inl (cI, 64, .inl (mm 2))), (q 4, .inr (1, [.ref (q 7), .int (g 16)])), (q 7, .inl (cI, 64, .inl (mm 3)))]) [2, 3] [0, 1, 4, 5, 6, 7] rfl rfl rfl rfl (by decide) (qq := (RX0, TX0, 5)) k_X2_30 (c_X0_append l D cI (q 2) (q 5) (g 11) (g 12) (g 13) (g 14) (mm 1) a1 hf) rfl rfl hd_X0_append ⟨by decide, by decide⟩ ⟨rfl, rfl⟩ hl.1 (rest := []) rfl (Nat.le_of_ble_eq_true rfl) ⟨by decide, by decide⟩ dX2_feed_5 (fun H locs Z => ?_)
  have Z := Z.perm (ws' := cw q cI (upd g 11 (fdX0_append (g 11) (g 12) (g 13) (g 14) (mm 1) a1)) (va_up mm 1 (tpX0_append (g 11) (g 12) (g 13) (g 14) (mm 1) a1))) [0, 1, 6, 7, 2, 3, 4, 5] rfl rfl
  exact hret _ _ _ _ _ _ Z (cw_eq rfl rfl) rfl nb_append dX2_feed_8
def rX2_waiting (g : Nat → Int32) (mm : Nat → Nat → Int32)  : Int32 := (rX0_unread (g 11) (g 12) (g 13) (g 14) (mm 1))
set_option maxRecDepth 20000 in
set_option maxHeartbeats 4000000 in
theorem c_X2_waiting (l : Launch) (D : va_G) (cI : ClassId) (q : Nat → Nat) (g : Nat → Int32) (mm : Nat → Nat → Int32)   : MI l D cI yX2_waiting (.code yX2_waiting cX2_waiting 1 (some .int)) ({ frames := 1, cells := 0, slots := 0, locals := 20 } : Room) [.ref (q 0)] (cw q cI g mm) (cw q cI g mm) (some (.int (rX2_waiting g mm))) := by
  refine MI.ofI (own := RX2) (by decide) rfl (Nat.le_of_ble_eq_true rfl) ?_
  intro p e s m args below meth c A ls Q X Z hl hret
  have hT : ∀ w ∈ TB, w ∈ (Cond.code yX2_waiting cX2_waiting 1 (some .int) :: TB) := fun _ h => List.mem_cons_of_mem _ h
  have hl : lv_has ls 1 [(0, .ref (q 0))] := hl
  refine lv_aload_n X.1 X.2.1 dX2_waiting_0 rfl (lv_at hl 0 rfl) ?_
  refine G_X2_reader X hT Z dX2_waiting_1 ?_
  refine call_Ni X hT Z (wc := rdw (q 2) (q 5) cI (g 11) (g 12) (g 13) (g 14) (mm 1)) (wr := [(q 0, .inr (2, [.ref (q 1), .ref (q 2), .ref (q 3), .ref (q 4), .int (g 0), .int (g 1), .int (g 2), .int (g 3), .int (g 4), .int (g 5), .int (g 6), .int (g 7), .int (g 8), .int (g 9), .int (g 10)])), (q 1, .inl (cI, 4096, .inl (mm 0))), (q 3, .inr (1, [.ref (q 6), .int (g 15)])), (q 6, .inl (cI, 64, .inl (mm 2))), (q 4, .inr (1, [.ref (q 7), .int (g 16)])), (q 7, .inl (cI, 64, .inl (mm 3)))]) [2, 3] [0, 1, 4, 5, 6, 7] rfl rfl rfl rfl (by decide) (qq := (RX0, TX0, 5)) k_X2_34 (c_X0_unread l D cI (q 2) (q 5) (g 11) (g 12) (g 13) (g 14) (mm 1) ) rfl rfl hd_X0_unread ⟨by decide, by decide⟩ ⟨rfl, rfl⟩ hl.1 (rest := []) rfl (Nat.le_of_ble_eq_true rfl) ⟨by decide, by decide⟩ dX2_waiting_4 (fun H locs Z => ?_)
  have Z := Z.perm (ws' := cw q cI g mm) [0, 1, 6, 7, 2, 3, 4, 5] rfl rfl
  exact hret _ _ _ _ _ _ Z (cw_eq rfl rfl) rfl dX2_waiting_7
def mX2_poke (g : Nat → Int32) (mm : Nat → Nat → Int32) (a1 : Int32) (a2 : Int32) : Nat → Nat → Int32 := if (rX2_isAddress a1) = 0 then (mm) else ((mX2_putWord g mm a1 a2))
def rX2_poke (g : Nat → Int32) (mm : Nat → Nat → Int32) (a1 : Int32) (a2 : Int32) : Int32 := if (rX2_isAddress a1) = 0 then ((-1)) else ((rX2_wordAt g mm a1))
set_option maxRecDepth 20000 in
set_option maxHeartbeats 4000000 in
theorem c_X2_poke (l : Launch) (D : va_G) (cI : ClassId) (q : Nat → Nat) (g : Nat → Int32) (mm : Nat → Nat → Int32) (a1 : Int32) (a2 : Int32)  : MI l D cI yX2_poke (.code yX2_poke cX2_poke 4 (some .int)) ({ frames := 1, cells := 0, slots := 0, locals := 22 } : Room) [.ref (q 0), .int a1, .int a2] (cw q cI g mm) (cw q cI g (mX2_poke g mm a1 a2)) (some (.int (rX2_poke g mm a1 a2))) := by
  refine MI.ofI (own := RX2) (by decide) rfl (Nat.le_of_ble_eq_true rfl) ?_
  intro p e s m args below meth c A ls Q X Z hl hret
  have hT : ∀ w ∈ TB, w ∈ (Cond.code yX2_poke cX2_poke 4 (some .int) :: TB) := fun _ h => List.mem_cons_of_mem _ h
  have hl : lv_has ls 4 [(0, .ref (q 0)), (1, .int a1), (2, .int a2)] := hl
  refine lv_iload_n X.1 X.2.1 dX2_poke_0 rfl (lv_at hl 1 rfl) ?_
  refine call_Si X hT Z k_X2_38 (c_X2_isAddress l D cI (cw q cI g mm) a1 ) hd_X2_isAddress ⟨by decide, by decide⟩ ⟨rfl, rfl⟩ hl.1 (rest := []) rfl (Nat.le_of_ble_eq_true rfl) ⟨by decide, by decide⟩ dX2_poke_1 (fun H locs Z => ?_)
  refine lv_if_ne (tgt := 9) X.1 X.2.1 dX2_poke_4 (by decide) (fun c_4 => ?_) (fun c_4 => ?_)
  · refine lv_aload_n X.1 X.2.1 dX2_poke_9 rfl (lv_at hl 0 rfl) ?_
    refine lv_iload_n X.1 X.2.1 dX2_poke_10 rfl (lv_at hl 1 rfl) ?_
    refine call_Vi X hT Z (qq := (RX2, TX2, 15)) k_X2_41 (c_X2_wordAt l D cI q g mm a1 ) rfl rfl hd_X2_wordAt ⟨by decide, by decide⟩ ⟨rfl, rfl⟩ hl.1 (rest := []) rfl (Nat.le_of_ble_eq_true rfl) ⟨by decide, by decide⟩ dX2_poke_11 (fun H locs Z => ?_)
    refine lv_istore_n (lv' := [(3, .int (rX2_wordAt g mm a1)), (0, .ref (q 0)), (1, .int a1), (2, .int a2)]) X.1 X.2.1 dX2_poke_14 rfl hl (by decide) rfl (fun ls hl => ?_)
    refine lv_aload_n X.1 X.2.1 dX2_poke_15 rfl (lv_at hl 1 rfl) ?_
    refine lv_iload_n X.1 X.2.1 dX2_poke_16 rfl (lv_at hl 2 rfl) ?_
    refine lv_iload_n X.1 X.2.1 dX2_poke_17 rfl (lv_at hl 3 rfl) ?_
    refine call_Vv X hT Z (qq := (RX2, TX2, 15)) k_X2_45 (c_X2_putWord l D cI q g mm a1 a2 ) rfl rfl hd_X2_putWord ⟨by decide, by decide⟩ ⟨rfl, rfl⟩ hl.1 (rest := []) rfl (Nat.le_of_ble_eq_true rfl) ⟨by decide, by decide⟩ dX2_poke_18 (fun H locs Z => ?_)
    refine lv_iload_n X.1 X.2.1 dX2_poke_21 rfl (lv_at hl 0 rfl) ?_
    exact hret _ _ _ _ _ _ Z (cw_eq rfl (if_neg c_4).symm) (if_neg c_4).symm dX2_poke_22
  · refine lv_iconst (v := (-1)) X.1 X.2.1 dX2_poke_7 (by decide) ?_
    exact hret _ _ _ _ _ _ Z (cw_eq rfl (if_pos c_4).symm) (if_pos c_4).symm dX2_poke_8
def uX2_peek_j16_s0 (g : Nat → Int32) (mm : Nat → Nat → Int32) (a1 : Int32) : Int32 := if (rX2_isAddress a1) = 0 then ((-1)) else ((rX2_wordAt g mm a1))
def rX2_peek (g : Nat → Int32) (mm : Nat → Nat → Int32) (a1 : Int32) : Int32 := let j16_s0 : Int32 := uX2_peek_j16_s0 g mm a1; j16_s0
set_option maxRecDepth 20000 in
set_option maxHeartbeats 4000000 in
theorem c_X2_peek (l : Launch) (D : va_G) (cI : ClassId) (q : Nat → Nat) (g : Nat → Int32) (mm : Nat → Nat → Int32) (a1 : Int32)  : MI l D cI yX2_peek (.code yX2_peek cX2_peek 2 (some .int)) ({ frames := 1, cells := 0, slots := 0, locals := 21 } : Room) [.ref (q 0), .int a1] (cw q cI g mm) (cw q cI g mm) (some (.int (rX2_peek g mm a1))) := by
  refine MI.ofI (own := RX2) (by decide) rfl (Nat.le_of_ble_eq_true rfl) ?_
  intro p e s m args below meth c A ls Q X Z hl hret
  have hT : ∀ w ∈ TB, w ∈ (Cond.code yX2_peek cX2_peek 2 (some .int) :: TB) := fun _ h => List.mem_cons_of_mem _ h
  have hl : lv_has ls 2 [(0, .ref (q 0)), (1, .int a1)] := hl
  refine lv_iload_n X.1 X.2.1 dX2_peek_0 rfl (lv_at hl 1 rfl) ?_
  refine call_Si X hT Z k_X2_38 (c_X2_isAddress l D cI (cw q cI g mm) a1 ) hd_X2_isAddress ⟨by decide, by decide⟩ ⟨rfl, rfl⟩ hl.1 (rest := []) rfl (Nat.le_of_ble_eq_true rfl) ⟨by decide, by decide⟩ dX2_peek_1 (fun H locs Z => ?_)
  suffices K_16 : ∀ (j16_s0 : Int32) (ls : Array Slot) (H : Heap) (locs : List Loc), j16_s0 = uX2_peek_j16_s0 g mm a1 → lv_has ls 2 [(0, .ref (q 0)), (1, .int a1)] → ZZ D cI (cw q cI g mm) A s H locs → W p l e ({ frames := 1, cells := 0, slots := 0, locals := 21 } : Room) s m args below meth c H locs 0 0 Q (F0 m 16 ls [.int j16_s0]) by
    refine lv_if_eq (tgt := 15) X.1 X.2.1 dX2_peek_4 (by decide) (fun c_4 => ?_) (fun c_4 => ?_)
    · refine lv_iconst (v := (-1)) X.1 X.2.1 dX2_peek_15 (by decide) ?_
      exact K_16 (-1) _ _ _ (if_pos c_4).symm (lv_sub hl [0, 1] rfl) Z
    · refine lv_aload_n X.1 X.2.1 dX2_peek_7 rfl (lv_at hl 0 rfl) ?_
      refine lv_iload_n X.1 X.2.1 dX2_peek_8 rfl (lv_at hl 1 rfl) ?_
      refine call_Vi X hT Z (qq := (RX2, TX2, 15)) k_X2_41 (c_X2_wordAt l D cI q g mm a1 ) rfl rfl hd_X2_wordAt ⟨by decide, by decide⟩ ⟨rfl, rfl⟩ hl.1 (rest := []) rfl (Nat.le_of_ble_eq_true rfl) ⟨by decide, by decide⟩ dX2_peek_9 (fun H locs Z => ?_)
      refine lv_goto (tgt := 16) X.1 X.2.1 dX2_peek_12 (by decide) ?_
      exact K_16 (rX2_wordAt g mm a1) _ _ _ (if_neg c_4).symm (lv_sub hl [0, 1] rfl) Z
  intro j16_s0 ls H locs e_j16_s0 hl Z
  exact hret _ _ _ _ _ _ Z (cw_eq rfl rfl) (by subst e_j16_s0; exact rfl) dX2_peek_16
def gX2_set (g : Nat → Int32) (mm : Nat → Nat → Int32) (a1 : Int32) (a2 : Int32) : Nat → Int32 := if a1 = 0 then ((upd g 0 (a2 &&& 4095))) else (if a1 = 1 then ((upd g 1 (a2 &&& 1))) else (if a1 = 2 then ((upd g 2 (a2 &&& 4095))) else (if a1 = 3 then ((upd g 3 (a2 &&& 4095))) else (if a1 = 4 then ((upd g 4 (a2 &&& 4095))) else (g)))))
def rX2_set (g : Nat → Int32) (mm : Nat → Nat → Int32) (a1 : Int32) (a2 : Int32) : Int32 := if a1 = 0 then (1) else (if a1 = 1 then (1) else (if a1 = 2 then (1) else (if a1 = 3 then (1) else (if a1 = 4 then (1) else (0)))))
set_option maxRecDepth 20000 in
set_option maxHeartbeats 4000000 in
theorem c_X2_set (l : Launch) (D : va_G) (cI : ClassId) (q : Nat → Nat) (g : Nat → Int32) (mm : Nat → Nat → Int32) (a1 : Int32) (a2 : Int32)  : MI l D cI yX2_set (.code yX2_set cX2_set 3 (some .boolean)) ({ frames := 0, cells := 0, slots := 0, locals := 0 } : Room) [.ref (q 0), .int a1, .int a2] (cw q cI g mm) (cw q cI (gX2_set g mm a1 a2) mm) (some (.int (rX2_set g mm a1 a2))) := by
  refine MI.ofZ (own := RX2) (by decide) rfl (Nat.le_of_ble_eq_true rfl) ?_
  intro p e s m args below meth c A ls Q X Z hl hret
  have hT : ∀ w ∈ TB, w ∈ (Cond.code yX2_set cX2_set 3 (some .boolean) :: TB) := fun _ h => List.mem_cons_of_mem _ h
  have hl : lv_has ls 3 [(0, .ref (q 0)), (1, .int a1), (2, .int a2)] := hl
  refine lv_iload_n X.1 X.2.1 dX2_set_0 rfl (lv_at hl 1 rfl) ?_
  by_cases c_1_0 : a1 = 0
  · refine lv_tableIn (tgt := 36) (off := 35) X.1 X.2.1 dX2_set_1 (by rw [c_1_0]; decide) (by rw [c_1_0]; decide) (by rw [c_1_0]; decide) (by decide) ?_
    refine lv_aload_n X.1 X.2.1 dX2_set_36 rfl (lv_at hl 0 rfl) ?_
    refine lv_iload_n X.1 X.2.1 dX2_set_37 rfl (lv_at hl 2 rfl) ?_
    refine lv_sipush (v := 4095) X.1 X.2.1 dX2_set_38 (by decide) ?_
    refine lv_iand X.1 X.2.1 dX2_set_41 ?_
    refine P_X2_ac X hT Z dX2_set_42 (fun H locs Z => ?_)
    refine lv_iconst (v := 1) X.1 X.2.1 dX2_set_45 (by decide) ?_
    exact hret _ _ _ _ _ _ Z (cw_eq (if_pos c_1_0).symm rfl) (if_pos c_1_0).symm rfl dX2_set_46
  · by_cases c_1_1 : a1 = 1
    · refine lv_tableIn (tgt := 47) (off := 46) X.1 X.2.1 dX2_set_1 (by rw [c_1_1]; decide) (by rw [c_1_1]; decide) (by rw [c_1_1]; decide) (by decide) ?_
      refine lv_aload_n X.1 X.2.1 dX2_set_47 rfl (lv_at hl 0 rfl) ?_
      refine lv_iload_n X.1 X.2.1 dX2_set_48 rfl (lv_at hl 2 rfl) ?_
      refine lv_iconst (v := 1) X.1 X.2.1 dX2_set_49 (by decide) ?_
      refine lv_iand X.1 X.2.1 dX2_set_50 ?_
      refine P_X2_link X hT Z dX2_set_51 (fun H locs Z => ?_)
      refine lv_iconst (v := 1) X.1 X.2.1 dX2_set_54 (by decide) ?_
      exact hret _ _ _ _ _ _ Z (cw_eq ((if_neg c_1_0).trans (if_pos c_1_1)).symm rfl) ((if_neg c_1_0).trans (if_pos c_1_1)).symm rfl dX2_set_55
    · by_cases c_1_2 : a1 = 2
      · refine lv_tableIn (tgt := 56) (off := 55) X.1 X.2.1 dX2_set_1 (by rw [c_1_2]; decide) (by rw [c_1_2]; decide) (by rw [c_1_2]; decide) (by decide) ?_
        refine lv_aload_n X.1 X.2.1 dX2_set_56 rfl (lv_at hl 0 rfl) ?_
        refine lv_iload_n X.1 X.2.1 dX2_set_57 rfl (lv_at hl 2 rfl) ?_
        refine lv_sipush (v := 4095) X.1 X.2.1 dX2_set_58 (by decide) ?_
        refine lv_iand X.1 X.2.1 dX2_set_61 ?_
        refine P_X2_pc X hT Z dX2_set_62 (fun H locs Z => ?_)
        refine lv_iconst (v := 1) X.1 X.2.1 dX2_set_65 (by decide) ?_
        exact hret _ _ _ _ _ _ Z (cw_eq ((if_neg c_1_0).trans ((if_neg c_1_1).trans (if_pos c_1_2))).symm rfl) ((if_neg c_1_0).trans ((if_neg c_1_1).trans (if_pos c_1_2))).symm rfl dX2_set_66
      · by_cases c_1_3 : a1 = 3
        · refine lv_tableIn (tgt := 67) (off := 66) X.1 X.2.1 dX2_set_1 (by rw [c_1_3]; decide) (by rw [c_1_3]; decide) (by rw [c_1_3]; decide) (by decide) ?_
          refine lv_aload_n X.1 X.2.1 dX2_set_67 rfl (lv_at hl 0 rfl) ?_
          refine lv_iload_n X.1 X.2.1 dX2_set_68 rfl (lv_at hl 2 rfl) ?_
          refine lv_sipush (v := 4095) X.1 X.2.1 dX2_set_69 (by decide) ?_
          refine lv_iand X.1 X.2.1 dX2_set_72 ?_
          refine P_X2_mq X hT Z dX2_set_73 (fun H locs Z => ?_)
          refine lv_iconst (v := 1) X.1 X.2.1 dX2_set_76 (by decide) ?_
          exact hret _ _ _ _ _ _ Z (cw_eq ((if_neg c_1_0).trans ((if_neg c_1_1).trans ((if_neg c_1_2).trans (if_pos c_1_3)))).symm rfl) ((if_neg c_1_0).trans ((if_neg c_1_1).trans ((if_neg c_1_2).trans (if_pos c_1_3)))).symm rfl dX2_set_77
        · by_cases c_1_4 : a1 = 4
          · refine lv_tableIn (tgt := 78) (off := 77) X.1 X.2.1 dX2_set_1 (by rw [c_1_4]; decide) (by rw [c_1_4]; decide) (by rw [c_1_4]; decide) (by decide) ?_
            refine lv_aload_n X.1 X.2.1 dX2_set_78 rfl (lv_at hl 0 rfl) ?_
            refine lv_iload_n X.1 X.2.1 dX2_set_79 rfl (lv_at hl 2 rfl) ?_
            refine lv_sipush (v := 4095) X.1 X.2.1 dX2_set_80 (by decide) ?_
            refine lv_iand X.1 X.2.1 dX2_set_83 ?_
            refine P_X2_sr X hT Z dX2_set_84 (fun H locs Z => ?_)
            refine lv_iconst (v := 1) X.1 X.2.1 dX2_set_87 (by decide) ?_
            exact hret _ _ _ _ _ _ Z (cw_eq ((if_neg c_1_0).trans ((if_neg c_1_1).trans ((if_neg c_1_2).trans ((if_neg c_1_3).trans (if_pos c_1_4))))).symm rfl) ((if_neg c_1_0).trans ((if_neg c_1_1).trans ((if_neg c_1_2).trans ((if_neg c_1_3).trans (if_pos c_1_4))))).symm rfl dX2_set_88
          · by_cases hsw : a1.toInt < 0 ∨ 4 < a1.toInt
            · refine lv_tableOut (tgt := 89) X.1 X.2.1 dX2_set_1 hsw (by decide) ?_
              refine lv_iconst (v := 0) X.1 X.2.1 dX2_set_89 (by decide) ?_
              exact hret _ _ _ _ _ _ Z (cw_eq ((if_neg c_1_0).trans ((if_neg c_1_1).trans ((if_neg c_1_2).trans ((if_neg c_1_3).trans (if_neg c_1_4))))).symm rfl) ((if_neg c_1_0).trans ((if_neg c_1_1).trans ((if_neg c_1_2).trans ((if_neg c_1_3).trans (if_neg c_1_4))))).symm rfl dX2_set_90
            · obtain ⟨j, hj, hx⟩ := sw_def hsw
              have hne : j ≠ 0 ∧ j ≠ 1 ∧ j ≠ 2 ∧ j ≠ 3 ∧ j ≠ 4 := ⟨(fun h => absurd (by omega) (lv_neT (a := 0) c_1_0 (by decide))), (fun h => absurd (by omega) (lv_neT (a := 1) c_1_1 (by decide))), (fun h => absurd (by omega) (lv_neT (a := 2) c_1_2 (by decide))), (fun h => absurd (by omega) (lv_neT (a := 3) c_1_3 (by decide))), (fun h => absurd (by omega) (lv_neT (a := 4) c_1_4 (by decide)))⟩
              omega
def rX2_register (g : Nat → Int32) (mm : Nat → Nat → Int32) (a1 : Int32) : Int32 := if a1 = 0 then ((g 0)) else (if a1 = 1 then ((g 1)) else (if a1 = 2 then ((g 2)) else (if a1 = 3 then ((g 3)) else (if a1 = 4 then ((g 4)) else (if a1 = 5 then ((rX2_bit (g 6))) else (if a1 = 6 then ((rX2_bit (g 7))) else (if a1 = 7 then ((rX2_bit (g 14))) else (if a1 = 8 then ((g 13)) else (if a1 = 9 then ((rX2_bit (g 8))) else (if a1 = 10 then ((rX2_bit (g 5))) else ((-1))))))))))))
set_option maxRecDepth 20000 in
set_option maxHeartbeats 4000000 in
theorem c_X2_register (l : Launch) (D : va_G) (cI : ClassId) (q : Nat → Nat) (g : Nat → Int32) (mm : Nat → Nat → Int32) (a1 : Int32)  : MI l D cI yX2_register (.code yX2_register cX2_register 2 (some .int)) ({ frames := 1, cells := 0, slots := 0, locals := 20 } : Room) [.ref (q 0), .int a1] (cw q cI g mm) (cw q cI g mm) (some (.int (rX2_register g mm a1))) := by
  refine MI.ofI (own := RX2) (by decide) rfl (Nat.le_of_ble_eq_true rfl) ?_
  intro p e s m args below meth c A ls Q X Z hl hret
  have hT : ∀ w ∈ TB, w ∈ (Cond.code yX2_register cX2_register 2 (some .int) :: TB) := fun _ h => List.mem_cons_of_mem _ h
  have hl : lv_has ls 2 [(0, .ref (q 0)), (1, .int a1)] := hl
  refine lv_iload_n X.1 X.2.1 dX2_register_0 rfl (lv_at hl 1 rfl) ?_
  by_cases c_1_0 : a1 = 0
  · refine lv_tableIn (tgt := 60) (off := 59) X.1 X.2.1 dX2_register_1 (by rw [c_1_0]; decide) (by rw [c_1_0]; decide) (by rw [c_1_0]; decide) (by decide) ?_
    refine lv_aload_n X.1 X.2.1 dX2_register_60 rfl (lv_at hl 0 rfl) ?_
    refine G_X2_ac X hT Z dX2_register_61 ?_
    exact hret _ _ _ _ _ _ Z (cw_eq rfl rfl) (if_pos c_1_0).symm dX2_register_64
  · by_cases c_1_1 : a1 = 1
    · refine lv_tableIn (tgt := 65) (off := 64) X.1 X.2.1 dX2_register_1 (by rw [c_1_1]; decide) (by rw [c_1_1]; decide) (by rw [c_1_1]; decide) (by decide) ?_
      refine lv_aload_n X.1 X.2.1 dX2_register_65 rfl (lv_at hl 0 rfl) ?_
      refine G_X2_link X hT Z dX2_register_66 ?_
      exact hret _ _ _ _ _ _ Z (cw_eq rfl rfl) ((if_neg c_1_0).trans (if_pos c_1_1)).symm dX2_register_69
    · by_cases c_1_2 : a1 = 2
      · refine lv_tableIn (tgt := 70) (off := 69) X.1 X.2.1 dX2_register_1 (by rw [c_1_2]; decide) (by rw [c_1_2]; decide) (by rw [c_1_2]; decide) (by decide) ?_
        refine lv_aload_n X.1 X.2.1 dX2_register_70 rfl (lv_at hl 0 rfl) ?_
        refine G_X2_pc X hT Z dX2_register_71 ?_
        exact hret _ _ _ _ _ _ Z (cw_eq rfl rfl) ((if_neg c_1_0).trans ((if_neg c_1_1).trans (if_pos c_1_2))).symm dX2_register_74
      · by_cases c_1_3 : a1 = 3
        · refine lv_tableIn (tgt := 75) (off := 74) X.1 X.2.1 dX2_register_1 (by rw [c_1_3]; decide) (by rw [c_1_3]; decide) (by rw [c_1_3]; decide) (by decide) ?_
          refine lv_aload_n X.1 X.2.1 dX2_register_75 rfl (lv_at hl 0 rfl) ?_
          refine G_X2_mq X hT Z dX2_register_76 ?_
          exact hret _ _ _ _ _ _ Z (cw_eq rfl rfl) ((if_neg c_1_0).trans ((if_neg c_1_1).trans ((if_neg c_1_2).trans (if_pos c_1_3)))).symm dX2_register_79
        · by_cases c_1_4 : a1 = 4
          · refine lv_tableIn (tgt := 80) (off := 79) X.1 X.2.1 dX2_register_1 (by rw [c_1_4]; decide) (by rw [c_1_4]; decide) (by rw [c_1_4]; decide) (by decide) ?_
            refine lv_aload_n X.1 X.2.1 dX2_register_80 rfl (lv_at hl 0 rfl) ?_
            refine G_X2_sr X hT Z dX2_register_81 ?_
            exact hret _ _ _ _ _ _ Z (cw_eq rfl rfl) ((if_neg c_1_0).trans ((if_neg c_1_1).trans ((if_neg c_1_2).trans ((if_neg c_1_3).trans (if_pos c_1_4))))).symm dX2_register_84
          · by_cases c_1_5 : a1 = 5
            · refine lv_tableIn (tgt := 85) (off := 84) X.1 X.2.1 dX2_register_1 (by rw [c_1_5]; decide) (by rw [c_1_5]; decide) (by rw [c_1_5]; decide) (by decide) ?_
              refine lv_aload_n X.1 X.2.1 dX2_register_85 rfl (lv_at hl 0 rfl) ?_
              refine G_X2_ion X hT Z dX2_register_86 ?_
              refine call_Si X hT Z k_X2_69 (c_X2_bit l D cI (cw q cI g mm) (g 6) ) hd_X2_bit ⟨by decide, by decide⟩ ⟨rfl, rfl⟩ hl.1 (rest := []) rfl (Nat.le_of_ble_eq_true rfl) ⟨by decide, by decide⟩ dX2_register_89 (fun H locs Z => ?_)
              exact hret _ _ _ _ _ _ Z (cw_eq rfl rfl) ((if_neg c_1_0).trans ((if_neg c_1_1).trans ((if_neg c_1_2).trans ((if_neg c_1_3).trans ((if_neg c_1_4).trans (if_pos c_1_5)))))).symm dX2_register_92
            · by_cases c_1_6 : a1 = 6
              · refine lv_tableIn (tgt := 93) (off := 92) X.1 X.2.1 dX2_register_1 (by rw [c_1_6]; decide) (by rw [c_1_6]; decide) (by rw [c_1_6]; decide) (by decide) ?_
                refine lv_aload_n X.1 X.2.1 dX2_register_93 rfl (lv_at hl 0 rfl) ?_
                refine G_X2_delay X hT Z dX2_register_94 ?_
                refine call_Si X hT Z k_X2_69 (c_X2_bit l D cI (cw q cI g mm) (g 7) ) hd_X2_bit ⟨by decide, by decide⟩ ⟨rfl, rfl⟩ hl.1 (rest := []) rfl (Nat.le_of_ble_eq_true rfl) ⟨by decide, by decide⟩ dX2_register_97 (fun H locs Z => ?_)
                exact hret _ _ _ _ _ _ Z (cw_eq rfl rfl) ((if_neg c_1_0).trans ((if_neg c_1_1).trans ((if_neg c_1_2).trans ((if_neg c_1_3).trans ((if_neg c_1_4).trans ((if_neg c_1_5).trans (if_pos c_1_6))))))).symm dX2_register_100
              · by_cases c_1_7 : a1 = 7
                · refine lv_tableIn (tgt := 101) (off := 100) X.1 X.2.1 dX2_register_1 (by rw [c_1_7]; decide) (by rw [c_1_7]; decide) (by rw [c_1_7]; decide) (by decide) ?_
                  refine lv_aload_n X.1 X.2.1 dX2_register_101 rfl (lv_at hl 0 rfl) ?_
                  refine G_X2_reader X hT Z dX2_register_102 ?_
                  refine G_X2_r_flag X hT Z dX2_register_105 ?_
                  refine call_Si X hT Z k_X2_69 (c_X2_bit l D cI (cw q cI g mm) (g 14) ) hd_X2_bit ⟨by decide, by decide⟩ ⟨rfl, rfl⟩ hl.1 (rest := []) rfl (Nat.le_of_ble_eq_true rfl) ⟨by decide, by decide⟩ dX2_register_108 (fun H locs Z => ?_)
                  exact hret _ _ _ _ _ _ Z (cw_eq rfl rfl) ((if_neg c_1_0).trans ((if_neg c_1_1).trans ((if_neg c_1_2).trans ((if_neg c_1_3).trans ((if_neg c_1_4).trans ((if_neg c_1_5).trans ((if_neg c_1_6).trans (if_pos c_1_7)))))))).symm dX2_register_111
                · by_cases c_1_8 : a1 = 8
                  · refine lv_tableIn (tgt := 112) (off := 111) X.1 X.2.1 dX2_register_1 (by rw [c_1_8]; decide) (by rw [c_1_8]; decide) (by rw [c_1_8]; decide) (by decide) ?_
                    refine lv_aload_n X.1 X.2.1 dX2_register_112 rfl (lv_at hl 0 rfl) ?_
                    refine G_X2_reader X hT Z dX2_register_113 ?_
                    refine G_X2_r_buffer X hT Z dX2_register_116 ?_
                    exact hret _ _ _ _ _ _ Z (cw_eq rfl rfl) ((if_neg c_1_0).trans ((if_neg c_1_1).trans ((if_neg c_1_2).trans ((if_neg c_1_3).trans ((if_neg c_1_4).trans ((if_neg c_1_5).trans ((if_neg c_1_6).trans ((if_neg c_1_7).trans (if_pos c_1_8))))))))).symm dX2_register_119
                  · by_cases c_1_9 : a1 = 9
                    · refine lv_tableIn (tgt := 120) (off := 119) X.1 X.2.1 dX2_register_1 (by rw [c_1_9]; decide) (by rw [c_1_9]; decide) (by rw [c_1_9]; decide) (by decide) ?_
                      refine lv_aload_n X.1 X.2.1 dX2_register_120 rfl (lv_at hl 0 rfl) ?_
                      refine G_X2_printerFlag X hT Z dX2_register_121 ?_
                      refine call_Si X hT Z k_X2_69 (c_X2_bit l D cI (cw q cI g mm) (g 8) ) hd_X2_bit ⟨by decide, by decide⟩ ⟨rfl, rfl⟩ hl.1 (rest := []) rfl (Nat.le_of_ble_eq_true rfl) ⟨by decide, by decide⟩ dX2_register_124 (fun H locs Z => ?_)
                      exact hret _ _ _ _ _ _ Z (cw_eq rfl rfl) ((if_neg c_1_0).trans ((if_neg c_1_1).trans ((if_neg c_1_2).trans ((if_neg c_1_3).trans ((if_neg c_1_4).trans ((if_neg c_1_5).trans ((if_neg c_1_6).trans ((if_neg c_1_7).trans ((if_neg c_1_8).trans (if_pos c_1_9)))))))))).symm dX2_register_127
                    · by_cases c_1_10 : a1 = 10
                      · refine lv_tableIn (tgt := 128) (off := 127) X.1 X.2.1 dX2_register_1 (by rw [c_1_10]; decide) (by rw [c_1_10]; decide) (by rw [c_1_10]; decide) (by decide) ?_
                        refine lv_aload_n X.1 X.2.1 dX2_register_128 rfl (lv_at hl 0 rfl) ?_
                        refine G_X2_halted X hT Z dX2_register_129 ?_
                        refine call_Si X hT Z k_X2_69 (c_X2_bit l D cI (cw q cI g mm) (g 5) ) hd_X2_bit ⟨by decide, by decide⟩ ⟨rfl, rfl⟩ hl.1 (rest := []) rfl (Nat.le_of_ble_eq_true rfl) ⟨by decide, by decide⟩ dX2_register_132 (fun H locs Z => ?_)
                        exact hret _ _ _ _ _ _ Z (cw_eq rfl rfl) ((if_neg c_1_0).trans ((if_neg c_1_1).trans ((if_neg c_1_2).trans ((if_neg c_1_3).trans ((if_neg c_1_4).trans ((if_neg c_1_5).trans ((if_neg c_1_6).trans ((if_neg c_1_7).trans ((if_neg c_1_8).trans ((if_neg c_1_9).trans (if_pos c_1_10))))))))))).symm dX2_register_135
                      · by_cases hsw : a1.toInt < 0 ∨ 10 < a1.toInt
                        · refine lv_tableOut (tgt := 136) X.1 X.2.1 dX2_register_1 hsw (by decide) ?_
                          refine lv_iconst (v := (-1)) X.1 X.2.1 dX2_register_136 (by decide) ?_
                          exact hret _ _ _ _ _ _ Z (cw_eq rfl rfl) ((if_neg c_1_0).trans ((if_neg c_1_1).trans ((if_neg c_1_2).trans ((if_neg c_1_3).trans ((if_neg c_1_4).trans ((if_neg c_1_5).trans ((if_neg c_1_6).trans ((if_neg c_1_7).trans ((if_neg c_1_8).trans ((if_neg c_1_9).trans (if_neg c_1_10))))))))))).symm dX2_register_137
                        · obtain ⟨j, hj, hx⟩ := sw_def hsw
                          have hne : j ≠ 0 ∧ j ≠ 1 ∧ j ≠ 2 ∧ j ≠ 3 ∧ j ≠ 4 ∧ j ≠ 5 ∧ j ≠ 6 ∧ j ≠ 7 ∧ j ≠ 8 ∧ j ≠ 9 ∧ j ≠ 10 := ⟨(fun h => absurd (by omega) (lv_neT (a := 0) c_1_0 (by decide))), (fun h => absurd (by omega) (lv_neT (a := 1) c_1_1 (by decide))), (fun h => absurd (by omega) (lv_neT (a := 2) c_1_2 (by decide))), (fun h => absurd (by omega) (lv_neT (a := 3) c_1_3 (by decide))), (fun h => absurd (by omega) (lv_neT (a := 4) c_1_4 (by decide))), (fun h => absurd (by omega) (lv_neT (a := 5) c_1_5 (by decide))), (fun h => absurd (by omega) (lv_neT (a := 6) c_1_6 (by decide))), (fun h => absurd (by omega) (lv_neT (a := 7) c_1_7 (by decide))), (fun h => absurd (by omega) (lv_neT (a := 8) c_1_8 (by decide))), (fun h => absurd (by omega) (lv_neT (a := 9) c_1_9 (by decide))), (fun h => absurd (by omega) (lv_neT (a := 10) c_1_10 (by decide)))⟩
                          omega
def gX2_go (g : Nat → Int32) (mm : Nat → Nat → Int32)  : Nat → Int32 := (upd g 5 0)
def rX2_go (g : Nat → Int32) (mm : Nat → Nat → Int32)  : Int32 := (g 5)
set_option maxRecDepth 20000 in
set_option maxHeartbeats 4000000 in
theorem c_X2_go (l : Launch) (D : va_G) (cI : ClassId) (q : Nat → Nat) (g : Nat → Int32) (mm : Nat → Nat → Int32)  (hh : narrow .boolean (.int (g 5)) = .int (g 5)) : MI l D cI yX2_go (.code yX2_go cX2_go 2 (some .boolean)) ({ frames := 0, cells := 0, slots := 0, locals := 0 } : Room) [.ref (q 0)] (cw q cI g mm) (cw q cI (gX2_go g mm) mm) (some (.int (rX2_go g mm))) := by
  refine MI.ofZ (own := RX2) (by decide) rfl (Nat.le_of_ble_eq_true rfl) ?_
  intro p e s m args below meth c A ls Q X Z hl hret
  have hT : ∀ w ∈ TB, w ∈ (Cond.code yX2_go cX2_go 2 (some .boolean) :: TB) := fun _ h => List.mem_cons_of_mem _ h
  have hl : lv_has ls 2 [(0, .ref (q 0))] := hl
  refine lv_aload_n X.1 X.2.1 dX2_go_0 rfl (lv_at hl 0 rfl) ?_
  refine G_X2_halted X hT Z dX2_go_1 ?_
  refine lv_istore_n (lv' := [(1, .int (g 5)), (0, .ref (q 0))]) X.1 X.2.1 dX2_go_4 rfl hl (by decide) rfl (fun ls hl => ?_)
  refine lv_aload_n X.1 X.2.1 dX2_go_5 rfl (lv_at hl 1 rfl) ?_
  refine lv_iconst (v := 0) X.1 X.2.1 dX2_go_6 (by decide) ?_
  refine P_X2_halted X hT Z ⟨rfl, rfl⟩ dX2_go_7 (fun H locs Z => ?_)
  refine lv_iload_n X.1 X.2.1 dX2_go_10 rfl (lv_at hl 0 rfl) ?_
  exact hret _ _ _ _ _ _ Z (cw_eq rfl rfl) rfl hh dX2_go_11
def uX2_printed_j23_s0 (g : Nat → Int32) (mm : Nat → Nat → Int32) (a1 : Int32) : Int32 := if a1 = (-1) then ((g 15)) else ((rX1_fromLatest (g 15) (mm 2) a1))
def rX2_printed (g : Nat → Int32) (mm : Nat → Nat → Int32) (a1 : Int32) : Int32 := let j23_s0 : Int32 := uX2_printed_j23_s0 g mm a1; j23_s0
set_option maxRecDepth 20000 in
set_option maxHeartbeats 4000000 in
theorem c_X2_printed (l : Launch) (D : va_G) (cI : ClassId) (q : Nat → Nat) (g : Nat → Int32) (mm : Nat → Nat → Int32) (a1 : Int32)  : MI l D cI yX2_printed (.code yX2_printed cX2_printed 2 (some .int)) ({ frames := 1, cells := 0, slots := 0, locals := 21 } : Room) [.ref (q 0), .int a1] (cw q cI g mm) (cw q cI g mm) (some (.int (rX2_printed g mm a1))) := by
  refine MI.ofI (own := RX2) (by decide) rfl (Nat.le_of_ble_eq_true rfl) ?_
  intro p e s m args below meth c A ls Q X Z hl hret
  have hT : ∀ w ∈ TB, w ∈ (Cond.code yX2_printed cX2_printed 2 (some .int) :: TB) := fun _ h => List.mem_cons_of_mem _ h
  have hl : lv_has ls 2 [(0, .ref (q 0)), (1, .int a1)] := hl
  refine lv_iload_n X.1 X.2.1 dX2_printed_0 rfl (lv_at hl 1 rfl) ?_
  refine lv_iconst (v := (-1)) X.1 X.2.1 dX2_printed_1 (by decide) ?_
  suffices K_23 : ∀ (j23_s0 : Int32) (ls : Array Slot) (H : Heap) (locs : List Loc), j23_s0 = uX2_printed_j23_s0 g mm a1 → lv_has ls 2 [(0, .ref (q 0)), (1, .int a1)] → ZZ D cI (cw q cI g mm) A s H locs → W p l e ({ frames := 1, cells := 0, slots := 0, locals := 21 } : Room) s m args below meth c H locs 0 0 Q (F0 m 23 ls [.int j23_s0]) by
    refine lv_icmp_ne (tgt := 15) X.1 X.2.1 dX2_printed_2 (by decide) (fun c_2 => ?_) (fun c_2 => ?_)
    · refine lv_aload_n X.1 X.2.1 dX2_printed_15 rfl (lv_at hl 0 rfl) ?_
      refine G_X2_prints X hT Z dX2_printed_16 ?_
      refine lv_iload_n X.1 X.2.1 dX2_printed_19 rfl (lv_at hl 1 rfl) ?_
      refine call_Ni X hT Z (wc := rcw (q 3) (q 6) cI (g 15) (mm 2)) (wr := [(q 0, .inr (2, [.ref (q 1), .ref (q 2), .ref (q 3), .ref (q 4), .int (g 0), .int (g 1), .int (g 2), .int (g 3), .int (g 4), .int (g 5), .int (g 6), .int (g 7), .int (g 8), .int (g 9), .int (g 10)])), (q 1, .inl (cI, 4096, .inl (mm 0))), (q 2, .inr (0, [.ref (q 5), .int (g 11), .int (g 12), .int (g 13), .int (g 14)])), (q 5, .inl (cI, 400, .inl (mm 1))), (q 4, .inr (1, [.ref (q 7), .int (g 16)])), (q 7, .inl (cI, 64, .inl (mm 3)))]) [4, 5] [0, 1, 2, 3, 6, 7] rfl rfl rfl rfl (by decide) (qq := (RX1, TX1, 2)) k_X2_94 (c_X1_fromLatest l D cI (q 3) (q 6) (g 15) (mm 2) a1 ) rfl rfl hd_X1_fromLatest ⟨by decide, by decide⟩ ⟨rfl, rfl⟩ hl.1 (rest := []) rfl (Nat.le_of_ble_eq_true rfl) ⟨by decide, by decide⟩ dX2_printed_20 (fun H locs Z => ?_)
      have Z := Z.perm (ws' := cw q cI g mm) [0, 1, 2, 3, 6, 7, 4, 5] rfl rfl
      exact K_23 (rX1_fromLatest (g 15) (mm 2) a1) _ _ _ (if_neg c_2).symm (lv_sub hl [0, 1] rfl) Z
    · refine lv_aload_n X.1 X.2.1 dX2_printed_5 rfl (lv_at hl 0 rfl) ?_
      refine G_X2_prints X hT Z dX2_printed_6 ?_
      refine G_X2_p_count X hT Z dX2_printed_9 ?_
      refine lv_goto (tgt := 23) X.1 X.2.1 dX2_printed_12 (by decide) ?_
      exact K_23 (g 15) _ _ _ (if_pos c_2).symm (lv_sub hl [0, 1] rfl) Z
  intro j23_s0 ls H locs e_j23_s0 hl Z
  exact hret _ _ _ _ _ _ Z (cw_eq rfl rfl) (by subst e_j23_s0; exact rfl) dX2_printed_23
def rX2_trace (g : Nat → Int32) (mm : Nat → Nat → Int32) (a1 : Int32) : Int32 := (rX1_fromLatest (g 16) (mm 3) a1)
set_option maxRecDepth 20000 in
set_option maxHeartbeats 4000000 in
theorem c_X2_trace (l : Launch) (D : va_G) (cI : ClassId) (q : Nat → Nat) (g : Nat → Int32) (mm : Nat → Nat → Int32) (a1 : Int32)  : MI l D cI yX2_trace (.code yX2_trace cX2_trace 2 (some .int)) ({ frames := 1, cells := 0, slots := 0, locals := 21 } : Room) [.ref (q 0), .int a1] (cw q cI g mm) (cw q cI g mm) (some (.int (rX2_trace g mm a1))) := by
  refine MI.ofI (own := RX2) (by decide) rfl (Nat.le_of_ble_eq_true rfl) ?_
  intro p e s m args below meth c A ls Q X Z hl hret
  have hT : ∀ w ∈ TB, w ∈ (Cond.code yX2_trace cX2_trace 2 (some .int) :: TB) := fun _ h => List.mem_cons_of_mem _ h
  have hl : lv_has ls 2 [(0, .ref (q 0)), (1, .int a1)] := hl
  refine lv_aload_n X.1 X.2.1 dX2_trace_0 rfl (lv_at hl 0 rfl) ?_
  refine G_X2_steps X hT Z dX2_trace_1 ?_
  refine lv_iload_n X.1 X.2.1 dX2_trace_4 rfl (lv_at hl 1 rfl) ?_
  refine call_Ni X hT Z (wc := rcw (q 4) (q 7) cI (g 16) (mm 3)) (wr := [(q 0, .inr (2, [.ref (q 1), .ref (q 2), .ref (q 3), .ref (q 4), .int (g 0), .int (g 1), .int (g 2), .int (g 3), .int (g 4), .int (g 5), .int (g 6), .int (g 7), .int (g 8), .int (g 9), .int (g 10)])), (q 1, .inl (cI, 4096, .inl (mm 0))), (q 2, .inr (0, [.ref (q 5), .int (g 11), .int (g 12), .int (g 13), .int (g 14)])), (q 5, .inl (cI, 400, .inl (mm 1))), (q 3, .inr (1, [.ref (q 6), .int (g 15)])), (q 6, .inl (cI, 64, .inl (mm 2)))]) [6, 7] [0, 1, 2, 3, 4, 5] rfl rfl rfl rfl (by decide) (qq := (RX1, TX1, 2)) k_X2_94 (c_X1_fromLatest l D cI (q 4) (q 7) (g 16) (mm 3) a1 ) rfl rfl hd_X1_fromLatest ⟨by decide, by decide⟩ ⟨rfl, rfl⟩ hl.1 (rest := []) rfl (Nat.le_of_ble_eq_true rfl) ⟨by decide, by decide⟩ dX2_trace_5 (fun H locs Z => ?_)
  have Z := Z.perm (ws' := cw q cI g mm) [0, 1, 2, 3, 4, 5, 6, 7] rfl rfl
  exact hret _ _ _ _ _ _ Z (cw_eq rfl rfl) rfl dX2_trace_8
def rX2_interrupts (g : Nat → Int32) (mm : Nat → Nat → Int32)  : Int32 := (g 9)
set_option maxRecDepth 20000 in
set_option maxHeartbeats 4000000 in
theorem c_X2_interrupts (l : Launch) (D : va_G) (cI : ClassId) (q : Nat → Nat) (g : Nat → Int32) (mm : Nat → Nat → Int32)   : MI l D cI yX2_interrupts (.code yX2_interrupts cX2_interrupts 1 (some .int)) ({ frames := 0, cells := 0, slots := 0, locals := 0 } : Room) [.ref (q 0)] (cw q cI g mm) (cw q cI g mm) (some (.int (rX2_interrupts g mm))) := by
  refine MI.ofI (own := RX2) (by decide) rfl (Nat.le_of_ble_eq_true rfl) ?_
  intro p e s m args below meth c A ls Q X Z hl hret
  have hT : ∀ w ∈ TB, w ∈ (Cond.code yX2_interrupts cX2_interrupts 1 (some .int) :: TB) := fun _ h => List.mem_cons_of_mem _ h
  have hl : lv_has ls 1 [(0, .ref (q 0))] := hl
  refine lv_aload_n X.1 X.2.1 dX2_interrupts_0 rfl (lv_at hl 0 rfl) ?_
  refine G_X2_interruptCount X hT Z dX2_interrupts_1 ?_
  exact hret _ _ _ _ _ _ Z (cw_eq rfl rfl) rfl dX2_interrupts_4
def rX2_skips (g : Nat → Int32) (mm : Nat → Nat → Int32)  : Int32 := (g 10)
set_option maxRecDepth 20000 in
set_option maxHeartbeats 4000000 in
theorem c_X2_skips (l : Launch) (D : va_G) (cI : ClassId) (q : Nat → Nat) (g : Nat → Int32) (mm : Nat → Nat → Int32)   : MI l D cI yX2_skips (.code yX2_skips cX2_skips 1 (some .int)) ({ frames := 0, cells := 0, slots := 0, locals := 0 } : Room) [.ref (q 0)] (cw q cI g mm) (cw q cI g mm) (some (.int (rX2_skips g mm))) := by
  refine MI.ofI (own := RX2) (by decide) rfl (Nat.le_of_ble_eq_true rfl) ?_
  intro p e s m args below meth c A ls Q X Z hl hret
  have hT : ∀ w ∈ TB, w ∈ (Cond.code yX2_skips cX2_skips 1 (some .int) :: TB) := fun _ h => List.mem_cons_of_mem _ h
  have hl : lv_has ls 1 [(0, .ref (q 0))] := hl
  refine lv_aload_n X.1 X.2.1 dX2_skips_0 rfl (lv_at hl 0 rfl) ?_
  refine G_X2_skipCount X hT Z dX2_skips_1 ?_
  exact hret _ _ _ _ _ _ Z (cw_eq rfl rfl) rfl dX2_skips_4
