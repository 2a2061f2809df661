/-- the reader's next byte lies in its row -/
def Cq (g : Nat → Int32) : Prop := ¬ g 11 ≤ g 12 → vp_in (g 12) 400
theorem nb_append {fd tk bf fl : Int32} {tp : Nat → Int32} {a1 : Int32} : narrow .boolean (.int (rX0_append fd tk bf fl tp a1)) = .int (rX0_append fd tk bf fl tp a1) := by
  unfold rX0_append
  (repeat' split) <;> rfl
def rX2_wordAt (g : Nat → Int32) (mm : Nat → Nat → Int32) (a1 : Int32) : Int32 := (mm 0 ((a1 &&& 4095).toNatClampNeg))
set_option maxRecDepth 20000 in
set_option maxHeartbeats 4000000 in
theorem c_X2_wordAt (l : Launch) (D : va_G) (cI : ClassId) (q : Nat → Nat) (g : Nat → Int32) (mm : Nat → Nat → Int32) (a1 : Int32)  : MI l D cI yX2_wordAt (.code yX2_wordAt cX2_wordAt 2 (some .int)) ({ frames := 0, cells := 0, slots := 0, locals := 0 } : Room) [.ref (q 0), .int a1] (cw q cI g mm) (cw q cI g mm) (some (.int (rX2_wordAt g mm a1))) := by
  refine MI.ofI (own := RX2) (by decide) rfl (Nat.le_of_ble_eq_true rfl) ?_
  intro p e s m args below meth c A ls Q X Z hl hret
  have hT : ∀ w ∈ TB, w ∈ (Cond.code yX2_wordAt cX2_wordAt 2 (some .int) :: TB) := fun _ h => List.mem_cons_of_mem _ h
  have hl : lv_has ls 2 [(0, .ref (q 0)), (1, .int a1)] := hl
  refine lv_aload_n X.1 X.2.1 dX2_wordAt_0 rfl (lv_at hl 0 rfl) ?_
  refine G_X2_core X hT Z dX2_wordAt_1 ?_
  refine lv_iload_n X.1 X.2.1 dX2_wordAt_4 rfl (lv_at hl 1 rfl) ?_
  refine lv_sipush (v := 4095) X.1 X.2.1 dX2_wordAt_5 (by decide) ?_
  refine lv_iand X.1 X.2.1 dX2_wordAt_8 ?_
  refine L_X2_core (j := (a1 &&& 4095).toNatClampNeg) X Z (vin4095 _) rfl dX2_wordAt_9 ?_
  exact hret _ _ _ _ _ _ Z (cw_eq rfl rfl) rfl dX2_wordAt_10
def mX2_putWord (g : Nat → Int32) (mm : Nat → Nat → Int32) (a1 : Int32) (a2 : Int32) : Nat → Nat → Int32 := (va_up mm 0 (upd (mm 0) ((a1 &&& 4095).toNatClampNeg) (a2 &&& 4095)))
set_option maxRecDepth 20000 in
set_option maxHeartbeats 4000000 in
theorem c_X2_putWord (l : Launch) (D : va_G) (cI : ClassId) (q : Nat → Nat) (g : Nat → Int32) (mm : Nat → Nat → Int32) (a1 : Int32) (a2 : Int32)  : MI l D cI yX2_putWord (.code yX2_putWord cX2_putWord 3 none) ({ frames := 0, cells := 0, slots := 0, locals := 0 } : Room) [.ref (q 0), .int a1, .int a2] (cw q cI g mm) (cw q cI g (mX2_putWord g mm a1 a2)) none := by
  refine MI.ofV (own := RX2) (by decide) rfl (Nat.le_of_ble_eq_true rfl) ?_
  intro p e s m args below meth c A ls Q X Z hl hret
  have hT : ∀ w ∈ TB, w ∈ (Cond.code yX2_putWord cX2_putWord 3 none :: TB) := fun _ h => List.mem_cons_of_mem _ h
  have hl : lv_has ls 3 [(0, .ref (q 0)), (1, .int a1), (2, .int a2)] := hl
  refine lv_aload_n X.1 X.2.1 dX2_putWord_0 rfl (lv_at hl 0 rfl) ?_
  refine G_X2_core X hT Z dX2_putWord_1 ?_
  refine lv_iload_n X.1 X.2.1 dX2_putWord_4 rfl (lv_at hl 1 rfl) ?_
  refine lv_sipush (v := 4095) X.1 X.2.1 dX2_putWord_5 (by decide) ?_
  refine lv_iand X.1 X.2.1 dX2_putWord_8 ?_
  refine lv_iload_n X.1 X.2.1 dX2_putWord_9 rfl (lv_at hl 2 rfl) ?_
  refine lv_sipush (v := 4095) X.1 X.2.1 dX2_putWord_10 (by decide) ?_
  refine lv_iand X.1 X.2.1 dX2_putWord_13 ?_
  refine S_X2_core (j := (a1 &&& 4095).toNatClampNeg) X Z (vin4095 _) rfl dX2_putWord_14 (fun H locs Z => ?_)
  exact hret _ _ _ _ _ Z (cw_eq rfl rfl) dX2_putWord_15
def uX2_skipIf_j25_g (g : Nat → Int32) (a1 : Int32) : Nat → Int32 := if a1 = 0 then (g) else ((upd (upd g 2 (rX2_next (g 2))) 10 (((upd g 2 (rX2_next (g 2))) 10) + 1)))
def gX2_skipIf (g : Nat → Int32) (mm : Nat → Nat → Int32) (a1 : Int32) : Nat → Int32 := let j25_g : Nat → Int32 := uX2_skipIf_j25_g g a1; j25_g
set_option maxRecDepth 20000 in
set_option maxHeartbeats 4000000 in
theorem c_X2_skipIf (l : Launch) (D : va_G) (cI : ClassId) (q : Nat → Nat) (g : Nat → Int32) (mm : Nat → Nat → Int32) (a1 : Int32)  : MI l D cI yX2_skipIf (.code yX2_skipIf cX2_skipIf 2 none) ({ frames := 1, cells := 0, slots := 0, locals := 20 } : Room) [.ref (q 0), .int a1] (cw q cI g mm) (cw q cI (gX2_skipIf g mm a1) mm) none := by
  refine MI.ofV (own := RX2) (by decide) rfl (Nat.le_of_ble_eq_true rfl) ?_
  intro p e s m args below meth c A ls Q X Z hl hret
  have hT : ∀ w ∈ TB, w ∈ (Cond.code yX2_skipIf cX2_skipIf 2 none :: TB) := fun _ h => List.mem_cons_of_mem _ h
  have hl : lv_has ls 2 [(0, .ref (q 0)), (1, .int a1)] := hl
  refine lv_iload_n X.1 X.2.1 dX2_skipIf_0 rfl (lv_at hl 1 rfl) ?_
  suffices K_25 : ∀ (j25_g : Nat → Int32) (ls : Array Slot) (H : Heap) (locs : List Loc), j25_g = uX2_skipIf_j25_g g a1 → lv_has ls 2 [(0, .ref (q 0)), (1, .int a1)] → ZZ D cI (cw q cI j25_g mm) A s H locs → W p l e ({ frames := 1, cells := 0, slots := 0, locals := 20 } : Room) s m args below meth c H locs 0 0 Q (F0 m 25 ls []) by
    refine lv_if_eq (tgt := 25) X.1 X.2.1 dX2_skipIf_1 (by decide) (fun c_1 => ?_) (fun c_1 => ?_)
    · exact K_25 g _ _ _ (if_pos c_1).symm (lv_sub hl [0, 1] rfl) Z
    · refine lv_aload_n X.1 X.2.1 dX2_skipIf_4 rfl (lv_at hl 0 rfl) ?_
      refine lv_aload_n X.1 X.2.1 dX2_skipIf_5 rfl (lv_at hl 0 rfl) ?_
      refine G_X2_pc X hT Z dX2_skipIf_6 ?_
      refine call_Si X hT Z k_X2_103 (c_X2_next l D cI (cw q cI g mm) (g 2) ) hd_X2_next ⟨by decide, by decide⟩ ⟨rfl, rfl⟩ hl.1 (rest := [.ref (q 0)]) rfl (Nat.le_of_ble_eq_true rfl) ⟨by decide, by decide⟩ dX2_skipIf_9 (fun H locs Z => ?_)
      refine P_X2_pc X hT Z dX2_skipIf_12 (fun H locs Z => ?_)
      refine lv_aload_n X.1 X.2.1 dX2_skipIf_15 rfl (lv_at hl 0 rfl) ?_
      refine lv_dup X.1 X.2.1 dX2_skipIf_16 rfl ?_
      refine G_X2_skipCount X hT Z dX2_skipIf_17 ?_
      refine lv_iconst (v := 1) X.1 X.2.1 dX2_skipIf_20 (by decide) ?_
      refine lv_iadd X.1 X.2.1 dX2_skipIf_21 ?_
      refine P_X2_skipCount X hT Z dX2_skipIf_22 (fun H locs Z => ?_)
      exact K_25 (upd (upd g 2 (rX2_next (g 2))) 10 (((upd g 2 (rX2_next (g 2))) 10) + 1)) _ _ _ (if_neg c_1).symm (lv_sub hl [0, 1] rfl) Z
  intro j25_g ls H locs e_j25_g hl Z
  exact hret _ _ _ _ _ Z (cw_eq (by subst e_j25_g; exact rfl) rfl) dX2_skipIf_25
def gX2_interrupt (g : Nat → Int32) (mm : Nat → Nat → Int32)  : Nat → Int32 := (upd (upd (upd g 2 1) 6 0) 9 (((upd (upd g 2 1) 6 0) 9) + 1))
def mX2_interrupt (g : Nat → Int32) (mm : Nat → Nat → Int32)  : Nat → Nat → Int32 := (mX2_putWord g mm 0 (g 2))
set_option maxRecDepth 20000 in
set_option maxHeartbeats 4000000 in
theorem c_X2_interrupt (l : Launch) (D : va_G) (cI : ClassId) (q : Nat → Nat) (g : Nat → Int32) (mm : Nat → Nat → Int32)   : MI l D cI yX2_interrupt (.code yX2_interrupt cX2_interrupt 1 none) ({ frames := 1, cells := 0, slots := 0, locals := 22 } : Room) [.ref (q 0)] (cw q cI g mm) (cw q cI (gX2_interrupt g mm) (mX2_interrupt g mm)) none := by
  refine MI.ofV (own := RX2) (by decide) rfl (Nat.le_of_ble_eq_true rfl) ?_
  intro p e s m args below meth c A ls Q X Z hl hret
  have hT : ∀ w ∈ TB, w ∈ (Cond.code yX2_interrupt cX2_interrupt 1 none :: TB) := fun _ h => List.mem_cons_of_mem _ h
  have hl : lv_has ls 1 [(0, .ref (q 0))] := hl
  refine lv_aload_n X.1 X.2.1 dX2_interrupt_0 rfl (lv_at hl 0 rfl) ?_
  refine lv_iconst (v := 0) X.1 X.2.1 dX2_interrupt_1 (by decide) ?_
  refine lv_aload_n X.1 X.2.1 dX2_interrupt_2 rfl (lv_at hl 0 rfl) ?_
  refine G_X2_pc X hT Z dX2_interrupt_3 ?_
  refine call_Vv X hT Z (qq := (RX2, TX2, 15)) k_X2_45 (c_X2_putWord l D cI q g mm 0 (g 2) ) rfl rfl hd_X2_putWord ⟨by decide, by decide⟩ ⟨rfl, rfl⟩ hl.1 (rest := []) rfl (Nat.le_of_ble_eq_true rfl) ⟨by decide, by decide⟩ dX2_interrupt_6 (fun H locs Z => ?_)
  refine lv_aload_n X.1 X.2.1 dX2_interrupt_9 rfl (lv_at hl 0 rfl) ?_
  refine lv_iconst (v := 1) X.1 X.2.1 dX2_interrupt_10 (by decide) ?_
  refine P_X2_pc X hT Z dX2_interrupt_11 (fun H locs Z => ?_)
  refine lv_aload_n X.1 X.2.1 dX2_interrupt_14 rfl (lv_at hl 0 rfl) ?_
  refine lv_iconst (v := 0) X.1 X.2.1 dX2_interrupt_15 (by decide) ?_
  refine P_X2_ion X hT Z ⟨rfl, rfl⟩ dX2_interrupt_16 (fun H locs Z => ?_)
  refine lv_aload_n X.1 X.2.1 dX2_interrupt_19 rfl (lv_at hl 0 rfl) ?_
  refine lv_dup X.1 X.2.1 dX2_interrupt_20 rfl ?_
  refine G_X2_interruptCount X hT Z dX2_interrupt_21 ?_
  refine lv_iconst (v := 1) X.1 X.2.1 dX2_interrupt_24 (by decide) ?_
  refine lv_iadd X.1 X.2.1 dX2_interrupt_25 ?_
  refine P_X2_interruptCount X hT Z dX2_interrupt_26 (fun H locs Z => ?_)
  exact hret _ _ _ _ _ Z (cw_eq rfl rfl) dX2_interrupt_29
def uX2_effectiveAddress_j23_l3 (a1 : Int32) (a2 : Int32) : Int32 := if (rX2_has a1 128) = 0 then ((a1 &&& 127)) else (((a1 &&& 127) + (a2 &&& 3968)))
def uX2_effectiveAddress_j60_mm (g : Nat → Int32) (mm : Nat → Nat → Int32) (j23_l3 : Int32) : Nat → Nat → Int32 := if j23_l3 < (8 : Int32) then (mm) else (if (15 : Int32) < j23_l3 then (mm) else ((mX2_putWord g mm j23_l3 (rX2_next (rX2_wordAt g mm j23_l3)))))
def mX2_effectiveAddress (g : Nat → Int32) (mm : Nat → Nat → Int32) (a1 : Int32) (a2 : Int32) : Nat → Nat → Int32 := let j23_l3 : Int32 := uX2_effectiveAddress_j23_l3 a1 a2; if (rX2_has a1 256) = 0 then (mm) else (let j60_mm : Nat → Nat → Int32 := uX2_effectiveAddress_j60_mm g mm j23_l3; j60_mm)
def rX2_effectiveAddress (g : Nat → Int32) (mm : Nat → Nat → Int32) (a1 : Int32) (a2 : Int32) : Int32 := let j23_l3 : Int32 := uX2_effectiveAddress_j23_l3 a1 a2; if (rX2_has a1 256) = 0 then (j23_l3) else (let j60_mm : Nat → Nat → Int32 := uX2_effectiveAddress_j60_mm g mm j23_l3; (rX2_wordAt g j60_mm j23_l3))
set_option maxRecDepth 20000 in
set_option maxHeartbeats 4000000 in
theorem c_X2_effectiveAddress (l : Launch) (D : va_G) (cI : ClassId) (q : Nat → Nat) (g : Nat → Int32) (mm : Nat → Nat → Int32) (a1 : Int32) (a2 : Int32)  : MI l D cI yX2_effectiveAddress (.code yX2_effectiveAddress cX2_effectiveAddress 4 (some .int)) ({ frames := 1, cells := 0, slots := 0, locals := 22 } : Room) [.ref (q 0), .int a1, .int a2] (cw q cI g mm) (cw q cI g (mX2_effectiveAddress g mm a1 a2)) (some (.int (rX2_effectiveAddress g mm a1 a2))) := by
  refine MI.ofI (own := RX2) (by decide) rfl (Nat.le_of_ble_eq_true rfl) ?_
  intro p e s m args below meth c A ls Q X Z hl hret
  have hT : ∀ w ∈ TB, w ∈ (Cond.code yX2_effectiveAddress cX2_effectiveAddress 4 (some .int) :: TB) := fun _ h => List.mem_cons_of_mem _ h
  have hl : lv_has ls 4 [(0, .ref (q 0)), (1, .int a1), (2, .int a2)] := hl
  refine lv_iload_n X.1 X.2.1 dX2_effectiveAddress_0 rfl (lv_at hl 1 rfl) ?_
  refine lv_bipush (v := 127) X.1 X.2.1 dX2_effectiveAddress_1 (by decide) ?_
  refine lv_iand X.1 X.2.1 dX2_effectiveAddress_3 ?_
  refine lv_istore_n (lv' := [(3, .int (a1 &&& 127)), (0, .ref (q 0)), (1, .int a1), (2, .int a2)]) X.1 X.2.1 dX2_effectiveAddress_4 rfl hl (by decide) rfl (fun ls hl => ?_)
  refine lv_iload_n X.1 X.2.1 dX2_effectiveAddress_5 rfl (lv_at hl 2 rfl) ?_
  refine lv_sipush (v := 128) X.1 X.2.1 dX2_effectiveAddress_6 (by decide) ?_
  refine call_Si X hT Z k_X2_126 (c_X2_has l D cI (cw q cI g mm) a1 128 ) hd_X2_has ⟨by decide, by decide⟩ ⟨rfl, rfl⟩ hl.1 (rest := []) rfl (Nat.le_of_ble_eq_true rfl) ⟨by decide, by decide⟩ dX2_effectiveAddress_9 (fun H locs Z => ?_)
  suffices K_23 : ∀ (j23_l3 : Int32) (ls : Array Slot) (H : Heap) (locs : List Loc), j23_l3 = uX2_effectiveAddress_j23_l3 a1 a2 → lv_has ls 4 [(3, .int j23_l3), (0, .ref (q 0)), (1, .int a1), (2, .int a2)] → ZZ D cI (cw q cI g mm) A s H locs → W p l e ({ frames := 1, cells := 0, slots := 0, locals := 22 } : Room) s m args below meth c H locs 0 0 Q (F0 m 23 ls []) by
    refine lv_if_eq (tgt := 23) X.1 X.2.1 dX2_effectiveAddress_12 (by decide) (fun c_12 => ?_) (fun c_12 => ?_)
    · exact K_23 (a1 &&& 127) _ _ _ (if_pos c_12).symm (lv_sub hl [0, 1, 2, 3] rfl) Z
    · refine lv_iload_n X.1 X.2.1 dX2_effectiveAddress_15 rfl (lv_at hl 0 rfl) ?_
      refine lv_iload_n X.1 X.2.1 dX2_effectiveAddress_16 rfl (lv_at hl 3 rfl) ?_
      refine lv_sipush (v := 3968) X.1 X.2.1 dX2_effectiveAddress_17 (by decide) ?_
      refine lv_iand X.1 X.2.1 dX2_effectiveAddress_20 ?_
      refine lv_iadd X.1 X.2.1 dX2_effectiveAddress_21 ?_
      refine lv_istore_n (lv' := [(3, .int ((a1 &&& 127) + (a2 &&& 3968))), (0, .ref (q 0)), (1, .int a1), (2, .int a2)]) X.1 X.2.1 dX2_effectiveAddress_22 rfl hl (by decide) rfl (fun ls hl => ?_)
      exact K_23 ((a1 &&& 127) + (a2 &&& 3968)) _ _ _ (if_neg c_12).symm (lv_sub hl [0, 1, 2, 3] rfl) Z
  intro j23_l3 ls H locs e_j23_l3 hl Z
  refine lv_iload_n X.1 X.2.1 dX2_effectiveAddress_23 rfl (lv_at hl 2 rfl) ?_
  refine lv_sipush (v := 256) X.1 X.2.1 dX2_effectiveAddress_24 (by decide) ?_
  refine call_Si X hT Z k_X2_126 (c_X2_has l D cI (cw q cI g mm) a1 256 ) hd_X2_has ⟨by decide, by decide⟩ ⟨rfl, rfl⟩ hl.1 (rest := []) rfl (Nat.le_of_ble_eq_true rfl) ⟨by decide, by decide⟩ dX2_effectiveAddress_27 (fun H locs Z => ?_)
  refine lv_if_ne (tgt := 35) X.1 X.2.1 dX2_effectiveAddress_30 (by decide) (fun c_30 => ?_) (fun c_30 => ?_)
  · refine lv_iload_n X.1 X.2.1 dX2_effectiveAddress_35 rfl (lv_at hl 0 rfl) ?_
    refine lv_bipush (v := 8) X.1 X.2.1 dX2_effectiveAddress_36 (by decide) ?_
    suffices K_60 : ∀ (j60_mm : Nat → Nat → Int32) (ls : Array Slot) (H : Heap) (locs : List Loc), j60_mm = uX2_effectiveAddress_j60_mm g mm j23_l3 → lv_has ls 4 [(3, .int j23_l3), (0, .ref (q 0)), (1, .int a1), (2, .int a2)] → ZZ D cI (cw q cI g j60_mm) A s H locs → W p l e ({ frames := 1, cells := 0, slots := 0, locals := 22 } : Room) s m args below meth c H locs 0 0 Q (F0 m 60 ls []) by
      refine lv_icmp_lt (tgt := 60) X.1 X.2.1 dX2_effectiveAddress_38 (by decide) (fun c_38 => ?_) (fun c_38 => ?_)
      · exact K_60 mm _ _ _ (if_pos c_38).symm (lv_sub hl [0, 1, 2, 3] rfl) Z
      · refine lv_iload_n X.1 X.2.1 dX2_effectiveAddress_41 rfl (lv_at hl 0 rfl) ?_
        refine lv_bipush (v := 15) X.1 X.2.1 dX2_effectiveAddress_42 (by decide) ?_
        refine lv_icmp_gt (tgt := 60) X.1 X.2.1 dX2_effectiveAddress_44 (by decide) (fun c_44 => ?_) (fun c_44 => ?_)
        · exact K_60 mm _ _ _ ((if_neg c_38).trans (if_pos c_44)).symm (lv_sub hl [0, 1, 2, 3] rfl) Z
        · refine lv_aload_n X.1 X.2.1 dX2_effectiveAddress_47 rfl (lv_at hl 1 rfl) ?_
          refine lv_iload_n X.1 X.2.1 dX2_effectiveAddress_48 rfl (lv_at hl 0 rfl) ?_
          refine lv_aload_n X.1 X.2.1 dX2_effectiveAddress_49 rfl (lv_at hl 1 rfl) ?_
          refine lv_iload_n X.1 X.2.1 dX2_effectiveAddress_50 rfl (lv_at hl 0 rfl) ?_
          refine call_Vi X hT Z (qq := (RX2, TX2, 15)) k_X2_41 (c_X2_wordAt l D cI q g mm j23_l3 ) rfl rfl hd_X2_wordAt ⟨by decide, by decide⟩ ⟨rfl, rfl⟩ hl.1 (rest := [.int j23_l3, .ref (q 0)]) rfl (Nat.le_of_ble_eq_true rfl) ⟨by decide, by decide⟩ dX2_effectiveAddress_51 (fun H locs Z => ?_)
          refine call_Si X hT Z k_X2_103 (c_X2_next l D cI (cw q cI g mm) (rX2_wordAt g mm j23_l3) ) hd_X2_next ⟨by decide, by decide⟩ ⟨rfl, rfl⟩ hl.1 (rest := [.int j23_l3, .ref (q 0)]) rfl (Nat.le_of_ble_eq_true rfl) ⟨by decide, by decide⟩ dX2_effectiveAddress_54 (fun H locs Z => ?_)
          refine call_Vv X hT Z (qq := (RX2, TX2, 15)) k_X2_45 (c_X2_putWord l D cI q g mm j23_l3 (rX2_next (rX2_wordAt g mm j23_l3)) ) rfl rfl hd_X2_putWord ⟨by decide, by decide⟩ ⟨rfl, rfl⟩ hl.1 (rest := []) rfl (Nat.le_of_ble_eq_true rfl) ⟨by decide, by decide⟩ dX2_effectiveAddress_57 (fun H locs Z => ?_)
          exact K_60 (mX2_putWord g mm j23_l3 (rX2_next (rX2_wordAt g mm j23_l3))) _ _ _ ((if_neg c_38).trans (if_neg c_44)).symm (lv_sub hl [0, 1, 2, 3] rfl) Z
    intro j60_mm ls H locs e_j60_mm hl Z
    refine lv_aload_n X.1 X.2.1 dX2_effectiveAddress_60 rfl (lv_at hl 1 rfl) ?_
    refine lv_iload_n X.1 X.2.1 dX2_effectiveAddress_61 rfl (lv_at hl 0 rfl) ?_
    refine call_Vi X hT Z (qq := (RX2, TX2, 15)) k_X2_41 (c_X2_wordAt l D cI q g j60_mm j23_l3 ) rfl rfl hd_X2_wordAt ⟨by decide, by decide⟩ ⟨rfl, rfl⟩ hl.1 (rest := []) rfl (Nat.le_of_ble_eq_true rfl) ⟨by decide, by decide⟩ dX2_effectiveAddress_62 (fun H locs Z => ?_)
    exact hret _ _ _ _ _ _ Z (cw_eq rfl (by subst e_j23_l3 e_j60_mm; exact (if_neg c_30).symm)) (by subst e_j23_l3 e_j60_mm; exact (if_neg c_30).symm) dX2_effectiveAddress_65
  · refine lv_iload_n X.1 X.2.1 dX2_effectiveAddress_33 rfl (lv_at hl 0 rfl) ?_
    exact hret _ _ _ _ _ _ Z (cw_eq rfl (by subst e_j23_l3; exact (if_pos c_30).symm)) (by subst e_j23_l3; exact (if_pos c_30).symm) dX2_effectiveAddress_34
def uX2_add_j24_g (g : Nat → Int32) (a1 : Int32) : Nat → Int32 := if ((g 0) + a1) ≤ (4095 : Int32) then (g) else ((upd g 1 ((g 1) ^^^ 1)))
def gX2_add (g : Nat → Int32) (mm : Nat → Nat → Int32) (a1 : Int32) : Nat → Int32 := let j24_g : Nat → Int32 := uX2_add_j24_g g a1; (upd j24_g 0 (((g 0) + a1) &&& 4095))
set_option maxRecDepth 20000 in
set_option maxHeartbeats 4000000 in
theorem c_X2_add (l : Launch) (D : va_G) (cI : ClassId) (q : Nat → Nat) (g : Nat → Int32) (mm : Nat → Nat → Int32) (a1 : Int32)  : MI l D cI yX2_add (.code yX2_add cX2_add 3 none) ({ frames := 0, cells := 0, slots := 0, locals := 0 } : Room) [.ref (q 0), .int a1] (cw q cI g mm) (cw q cI (gX2_add g mm a1) mm) none := by
  refine MI.ofV (own := RX2) (by decide) rfl (Nat.le_of_ble_eq_true rfl) ?_
  intro p e s m args below meth c A ls Q X Z hl hret
  have hT : ∀ w ∈ TB, w ∈ (Cond.code yX2_add cX2_add 3 none :: TB) := fun _ h => List.mem_cons_of_mem _ h
  have hl : lv_has ls 3 [(0, .ref (q 0)), (1, .int a1)] := hl
  refine lv_aload_n X.1 X.2.1 dX2_add_0 rfl (lv_at hl 0 rfl) ?_
  refine G_X2_ac X hT Z dX2_add_1 ?_
  refine lv_iload_n X.1 X.2.1 dX2_add_4 rfl (lv_at hl 1 rfl) ?_
  refine lv_iadd X.1 X.2.1 dX2_add_5 ?_
  refine lv_istore_n (lv' := [(2, .int ((g 0) + a1)), (0, .ref (q 0)), (1, .int a1)]) X.1 X.2.1 dX2_add_6 rfl hl (by decide) rfl (fun ls hl => ?_)
  refine lv_iload_n X.1 X.2.1 dX2_add_7 rfl (lv_at hl 0 rfl) ?_
  refine lv_sipush (v := 4095) X.1 X.2.1 dX2_add_8 (by decide) ?_
  suffices K_24 : ∀ (j24_g : Nat → Int32) (ls : Array Slot) (H : Heap) (locs : List Loc), j24_g = uX2_add_j24_g g a1 → lv_has ls 3 [(2, .int ((g 0) + a1)), (0, .ref (q 0)), (1, .int a1)] → ZZ D cI (cw q cI j24_g mm) A s H locs → W p l e ({ frames := 0, cells := 0, slots := 0, locals := 0 } : Room) s m args below meth c H locs 0 0 Q (F0 m 24 ls []) by
    refine lv_icmp_le (tgt := 24) X.1 X.2.1 dX2_add_11 (by decide) (fun c_11 => ?_) (fun c_11 => ?_)
    · exact K_24 g _ _ _ (if_pos c_11).symm (lv_sub hl [0, 1, 2] rfl) Z
    · refine lv_aload_n X.1 X.2.1 dX2_add_14 rfl (lv_at hl 1 rfl) ?_
      refine lv_dup X.1 X.2.1 dX2_add_15 rfl ?_
      refine G_X2_link X hT Z dX2_add_16 ?_
      refine lv_iconst (v := 1) X.1 X.2.1 dX2_add_19 (by decide) ?_
      refine lv_ixor X.1 X.2.1 dX2_add_20 ?_
      refine P_X2_link X hT Z dX2_add_21 (fun H locs Z => ?_)
      exact K_24 (upd g 1 ((g 1) ^^^ 1)) _ _ _ (if_neg c_11).symm (lv_sub hl [0, 1, 2] rfl) Z
  intro j24_g ls H locs e_j24_g hl Z
  refine lv_aload_n X.1 X.2.1 dX2_add_24 rfl (lv_at hl 1 rfl) ?_
  refine lv_iload_n X.1 X.2.1 dX2_add_25 rfl (lv_at hl 0 rfl) ?_
  refine lv_sipush (v := 4095) X.1 X.2.1 dX2_add_26 (by decide) ?_
  refine lv_iand X.1 X.2.1 dX2_add_29 ?_
  refine P_X2_ac X hT Z dX2_add_30 (fun H locs Z => ?_)
  exact hret _ _ _ _ _ Z (cw_eq (by subst e_j24_g; exact rfl) rfl) dX2_add_33
def uX2_performAddressed_j92_s0 (g : Nat → Int32) (mm : Nat → Nat → Int32) (a2 : Int32) : Int32 := if (rX2_wordAt g (mX2_putWord g mm a2 (rX2_next (rX2_wordAt g mm a2))) a2) = 0 then (1) else (0)
def uX2_performAddressed_j140_g (g : Nat → Int32) (mm : Nat → Nat → Int32) (a1 : Int32) (a2 : Int32) : Nat → Int32 := if a1 = 0 then ((upd g 0 ((g 0) &&& (rX2_wordAt g mm a2)))) else (if a1 = 1 then ((gX2_add g mm (rX2_wordAt g mm a2))) else (if a1 = 2 then (let j92_s0 : Int32 := uX2_performAddressed_j92_s0 g mm a2; (gX2_skipIf g (mX2_putWord g mm a2 (rX2_next (rX2_wordAt g mm a2))) j92_s0)) else (if a1 = 3 then ((upd g 0 0)) else (if a1 = 4 then ((upd g 2 (rX2_next a2))) else ((upd g 2 a2))))))
def uX2_performAddressed_j140_mm (g : Nat → Int32) (mm : Nat → Nat → Int32) (a1 : Int32) (a2 : Int32) : Nat → Nat → Int32 := if a1 = 0 then (mm) else (if a1 = 1 then (mm) else (if a1 = 2 then ((mX2_putWord g mm a2 (rX2_next (rX2_wordAt g mm a2)))) else (if a1 = 3 then ((mX2_putWord g mm a2 (g 0))) else (if a1 = 4 then ((mX2_putWord g mm a2 (g 2))) else (mm)))))
def gX2_performAddressed (g : Nat → Int32) (mm : Nat → Nat → Int32) (a1 : Int32) (a2 : Int32) : Nat → Int32 := let j140_g : Nat → Int32 := uX2_performAddressed_j140_g g mm a1 a2; j140_g
def mX2_performAddressed (g : Nat → Int32) (mm : Nat → Nat → Int32) (a1 : Int32) (a2 : Int32) : Nat → Nat → Int32 := let j140_mm : Nat → Nat → Int32 := uX2_performAddressed_j140_mm g mm a1 a2; j140_mm
set_option maxRecDepth 20000 in
set_option maxHeartbeats 4000000 in
theorem c_X2_performAddressed (l : Launch) (D : va_G) (cI : ClassId) (q : Nat → Nat) (g : Nat → Int32) (mm : Nat → Nat → Int32) (a1 : Int32) (a2 : Int32)  : MI l D cI yX2_performAddressed (.code yX2_performAddressed cX2_performAddressed 3 none) ({ frames := 2, cells := 0, slots := 0, locals := 41 } : Room) [.ref (q 0), .int a1, .int a2] (cw q cI g mm) (cw q cI (gX2_performAddressed g mm a1 a2) (mX2_performAddressed g mm a1 a2)) none := by
  refine MI.ofV (own := RX2) (by decide) rfl (Nat.le_of_ble_eq_true rfl) ?_
  intro p e s m args below meth c A ls Q X Z hl hret
  have hT : ∀ w ∈ TB, w ∈ (Cond.code yX2_performAddressed cX2_performAddressed 3 none :: TB) := fun _ h => List.mem_cons_of_mem _ h
  have hl : lv_has ls 3 [(0, .ref (q 0)), (1, .int a1), (2, .int a2)] := hl
  refine lv_iload_n X.1 X.2.1 dX2_performAddressed_0 rfl (lv_at hl 1 rfl) ?_
  suffices K_140 : ∀ (j140_g : Nat → Int32) (j140_mm : Nat → Nat → Int32) (ls : Array Slot) (H : Heap) (locs : List Loc), j140_g = uX2_performAddressed_j140_g g mm a1 a2 → j140_mm = uX2_performAddressed_j140_mm g mm a1 a2 → lv_has ls 3 [(0, .ref (q 0)), (1, .int a1), (2, .int a2)] → ZZ D cI (cw q cI j140_g j140_mm) A s H locs → W p l e ({ frames := 2, cells := 0, slots := 0, locals := 41 } : Room) s m args below meth c H locs 0 0 Q (F0 m 140 ls []) by
    by_cases c_1_0 : a1 = 0
    · refine lv_tableIn (tgt := 36) (off := 35) X.1 X.2.1 dX2_performAddressed_1 (by rw [c_1_0]; decide) (by rw [c_1_0]; decide) (by rw [c_1_0]; decide) (by decide) ?_
      refine lv_aload_n X.1 X.2.1 dX2_performAddressed_36 rfl (lv_at hl 0 rfl) ?_
      refine lv_dup X.1 X.2.1 dX2_performAddressed_37 rfl ?_
      refine G_X2_ac X hT Z dX2_performAddressed_38 ?_
      refine lv_aload_n X.1 X.2.1 dX2_performAddressed_41 rfl (lv_at hl 0 rfl) ?_
      refine lv_iload_n X.1 X.2.1 dX2_performAddressed_42 rfl (lv_at hl 2 rfl) ?_
      refine call_Vi X hT Z (qq := (RX2, TX2, 15)) k_X2_41 (c_X2_wordAt l D cI q g mm a2 ) rfl rfl hd_X2_wordAt ⟨by decide, by decide⟩ ⟨rfl, rfl⟩ hl.1 (rest := [.int (g 0), .ref (q 0)]) rfl (Nat.le_of_ble_eq_true rfl) ⟨by decide, by decide⟩ dX2_performAddressed_43 (fun H locs Z => ?_)
      refine lv_iand X.1 X.2.1 dX2_performAddressed_46 ?_
      refine P_X2_ac X hT Z dX2_performAddressed_47 (fun H locs Z => ?_)
      refine lv_goto (tgt := 140) X.1 X.2.1 dX2_performAddressed_50 (by decide) ?_
      exact K_140 (upd g 0 ((g 0) &&& (rX2_wordAt g mm a2))) mm _ _ _ (if_pos c_1_0).symm (if_pos c_1_0).symm (lv_sub hl [0, 1, 2] rfl) Z
    · by_cases c_1_1 : a1 = 1
      · refine lv_tableIn (tgt := 53) (off := 52) X.1 X.2.1 dX2_performAddressed_1 (by rw [c_1_1]; decide) (by rw [c_1_1]; decide) (by rw [c_1_1]; decide) (by decide) ?_
        refine lv_aload_n X.1 X.2.1 dX2_performAddressed_53 rfl (lv_at hl 0 rfl) ?_
        refine lv_aload_n X.1 X.2.1 dX2_performAddressed_54 rfl (lv_at hl 0 rfl) ?_
        refine lv_iload_n X.1 X.2.1 dX2_performAddressed_55 rfl (lv_at hl 2 rfl) ?_
        refine call_Vi X hT Z (qq := (RX2, TX2, 15)) k_X2_41 (c_X2_wordAt l D cI q g mm a2 ) rfl rfl hd_X2_wordAt ⟨by decide, by decide⟩ ⟨rfl, rfl⟩ hl.1 (rest := [.ref (q 0)]) rfl (Nat.le_of_ble_eq_true rfl) ⟨by decide, by decide⟩ dX2_performAddressed_56 (fun H locs Z => ?_)
        refine call_Vv X hT Z (qq := (RX2, TX2, 15)) k_X2_139 (c_X2_add l D cI q g mm (rX2_wordAt g mm a2) ) rfl rfl hd_X2_add ⟨by decide, by decide⟩ ⟨rfl, rfl⟩ hl.1 (rest := []) rfl (Nat.le_of_ble_eq_true rfl) ⟨by decide, by decide⟩ dX2_performAddressed_59 (fun H locs Z => ?_)
        refine lv_goto (tgt := 140) X.1 X.2.1 dX2_performAddressed_62 (by decide) ?_
        exact K_140 (gX2_add g mm (rX2_wordAt g mm a2)) mm _ _ _ ((if_neg c_1_0).trans (if_pos c_1_1)).symm ((if_neg c_1_0).trans (if_pos c_1_1)).symm (lv_sub hl [0, 1, 2] rfl) Z
      · by_cases c_1_2 : a1 = 2
        · refine lv_tableIn (tgt := 65) (off := 64) X.1 X.2.1 dX2_performAddressed_1 (by rw [c_1_2]; decide) (by rw [c_1_2]; decide) (by rw [c_1_2]; decide) (by decide) ?_
          refine lv_aload_n X.1 X.2.1 dX2_performAddressed_65 rfl (lv_at hl 0 rfl) ?_
          refine lv_iload_n X.1 X.2.1 dX2_performAddressed_66 rfl (lv_at hl 2 rfl) ?_
          refine lv_aload_n X.1 X.2.1 dX2_performAddressed_67 rfl (lv_at hl 0 rfl) ?_
          refine lv_iload_n X.1 X.2.1 dX2_performAddressed_68 rfl (lv_at hl 2 rfl) ?_
          refine call_Vi X hT Z (qq := (RX2, TX2, 15)) k_X2_41 (c_X2_wordAt l D cI q g mm a2 ) rfl rfl hd_X2_wordAt ⟨by decide, by decide⟩ ⟨rfl, rfl⟩ hl.1 (rest := [.int a2, .ref (q 0)]) rfl (Nat.le_of_ble_eq_true rfl) ⟨by decide, by decide⟩ dX2_performAddressed_69 (fun H locs Z => ?_)
          refine call_Si X hT Z k_X2_103 (c_X2_next l D cI (cw q cI g mm) (rX2_wordAt g mm a2) ) hd_X2_next ⟨by decide, by decide⟩ ⟨rfl, rfl⟩ hl.1 (rest := [.int a2, .ref (q 0)]) rfl (Nat.le_of_ble_eq_true rfl) ⟨by decide, by decide⟩ dX2_performAddressed_72 (fun H locs Z => ?_)
          refine call_Vv X hT Z (qq := (RX2, TX2, 15)) k_X2_45 (c_X2_putWord l D cI q g mm a2 (rX2_next (rX2_wordAt g mm a2)) ) rfl rfl hd_X2_putWord ⟨by decide, by decide⟩ ⟨rfl, rfl⟩ hl.1 (rest := []) rfl (Nat.le_of_ble_eq_true rfl) ⟨by decide, by decide⟩ dX2_performAddressed_75 (fun H locs Z => ?_)
          refine lv_aload_n X.1 X.2.1 dX2_performAddressed_78 rfl (lv_at hl 0 rfl) ?_
          refine lv_aload_n X.1 X.2.1 dX2_performAddressed_79 rfl (lv_at hl 0 rfl) ?_
          refine lv_iload_n X.1 X.2.1 dX2_performAddressed_80 rfl (lv_at hl 2 rfl) ?_
          refine call_Vi X hT Z (qq := (RX2, TX2, 15)) k_X2_41 (c_X2_wordAt l D cI q g (mX2_putWord g mm a2 (rX2_next (rX2_wordAt g mm a2))) a2 ) rfl rfl hd_X2_wordAt ⟨by decide, by decide⟩ ⟨rfl, rfl⟩ hl.1 (rest := [.ref (q 0)]) rfl (Nat.le_of_ble_eq_true rfl) ⟨by decide, by decide⟩ dX2_performAddressed_81 (fun H locs Z => ?_)
          suffices K_92 : ∀ (j92_s0 : Int32) (ls : Array Slot) (H : Heap) (locs : List Loc), j92_s0 = uX2_performAddressed_j92_s0 g mm a2 → lv_has ls 3 [(0, .ref (q 0)), (1, .int a1), (2, .int a2)] → ZZ D cI (cw q cI g (mX2_putWord g mm a2 (rX2_next (rX2_wordAt g mm a2)))) A s H locs → W p l e ({ frames := 2, cells := 0, slots := 0, locals := 41 } : Room) s m args below meth c H locs 0 0 Q (F0 m 92 ls [.int j92_s0, .ref (q 0)]) by
            refine lv_if_ne (tgt := 91) X.1 X.2.1 dX2_performAddressed_84 (by decide) (fun c_84 => ?_) (fun c_84 => ?_)
            · refine lv_iconst (v := 0) X.1 X.2.1 dX2_performAddressed_91 (by decide) ?_
              exact K_92 0 _ _ _ (if_neg c_84).symm (lv_sub hl [0, 1, 2] rfl) Z
            · refine lv_iconst (v := 1) X.1 X.2.1 dX2_performAddressed_87 (by decide) ?_
              refine lv_goto (tgt := 92) X.1 X.2.1 dX2_performAddressed_88 (by decide) ?_
              exact K_92 1 _ _ _ (if_pos c_84).symm (lv_sub hl [0, 1, 2] rfl) Z
          intro j92_s0 ls H locs e_j92_s0 hl Z
          refine call_Vv X hT Z (qq := (RX2, TX2, 15)) k_X2_140 (c_X2_skipIf l D cI q g (mX2_putWord g mm a2 (rX2_next (rX2_wordAt g mm a2))) j92_s0 ) rfl rfl hd_X2_skipIf ⟨by decide, by decide⟩ ⟨rfl, rfl⟩ hl.1 (rest := []) rfl (Nat.le_of_ble_eq_true rfl) ⟨by decide, by decide⟩ dX2_performAddressed_92 (fun H locs Z => ?_)
          refine lv_goto (tgt := 140) X.1 X.2.1 dX2_performAddressed_95 (by decide) ?_
          exact K_140 (gX2_skipIf g (mX2_putWord g mm a2 (rX2_next (rX2_wordAt g mm a2))) j92_s0) (mX2_putWord g mm a2 (rX2_next (rX2_wordAt g mm a2))) _ _ _ (by subst e_j92_s0; exact ((if_neg c_1_0).trans ((if_neg c_1_1).trans (if_pos c_1_2))).symm) (by subst e_j92_s0; exact ((if_neg c_1_0).trans ((if_neg c_1_1).trans (if_pos c_1_2))).symm) (lv_sub hl [0, 1, 2] rfl) Z
        · by_cases c_1_3 : a1 = 3
          · refine lv_tableIn (tgt := 98) (off := 97) X.1 X.2.1 dX2_performAddressed_1 (by rw [c_1_3]; decide) (by rw [c_1_3]; decide) (by rw [c_1_3]; decide) (by decide) ?_
            refine lv_aload_n X.1 X.2.1 dX2_performAddressed_98 rfl (lv_at hl 0 rfl) ?_
            refine lv_iload_n X.1 X.2.1 dX2_performAddressed_99 rfl (lv_at hl 2 rfl) ?_
            refine lv_aload_n X.1 X.2.1 dX2_performAddressed_100 rfl (lv_at hl 0 rfl) ?_
            refine G_X2_ac X hT Z dX2_performAddressed_101 ?_
            refine call_Vv X hT Z (qq := (RX2, TX2, 15)) k_X2_45 (c_X2_putWord l D cI q g mm a2 (g 0) ) rfl rfl hd_X2_putWord ⟨by decide, by decide⟩ ⟨rfl, rfl⟩ hl.1 (rest := []) rfl (Nat.le_of_ble_eq_true rfl) ⟨by decide, by decide⟩ dX2_performAddressed_104 (fun H locs Z => ?_)
            refine lv_aload_n X.1 X.2.1 dX2_performAddressed_107 rfl (lv_at hl 0 rfl) ?_
            refine lv_iconst (v := 0) X.1 X.2.1 dX2_performAddressed_108 (by decide) ?_
            refine P_X2_ac X hT Z dX2_performAddressed_109 (fun H locs Z => ?_)
            refine lv_goto (tgt := 140) X.1 X.2.1 dX2_performAddressed_112 (by decide) ?_
            exact K_140 (upd g 0 0) (mX2_putWord g mm a2 (g 0)) _ _ _ ((if_neg c_1_0).trans ((if_neg c_1_1).trans ((if_neg c_1_2).trans (if_pos c_1_3)))).symm ((if_neg c_1_0).trans ((if_neg c_1_1).trans ((if_neg c_1_2).trans (if_pos c_1_3)))).symm (lv_sub hl [0, 1, 2] rfl) Z
          · by_cases c_1_4 : a1 = 4
            · refine lv_tableIn (tgt := 115) (off := 114) X.1 X.2.1 dX2_performAddressed_1 (by rw [c_1_4]; decide) (by rw [c_1_4]; decide) (by rw [c_1_4]; decide) (by decide) ?_
              refine lv_aload_n X.1 X.2.1 dX2_performAddressed_115 rfl (lv_at hl 0 rfl) ?_
              refine lv_iload_n X.1 X.2.1 dX2_performAddressed_116 rfl (lv_at hl 2 rfl) ?_
              refine lv_aload_n X.1 X.2.1 dX2_performAddressed_117 rfl (lv_at hl 0 rfl) ?_
              refine G_X2_pc X hT Z dX2_performAddressed_118 ?_
              refine call_Vv X hT Z (qq := (RX2, TX2, 15)) k_X2_45 (c_X2_putWord l D cI q g mm a2 (g 2) ) rfl rfl hd_X2_putWord ⟨by decide, by decide⟩ ⟨rfl, rfl⟩ hl.1 (rest := []) rfl (Nat.le_of_ble_eq_true rfl) ⟨by decide, by decide⟩ dX2_performAddressed_121 (fun H locs Z => ?_)
              refine lv_aload_n X.1 X.2.1 dX2_performAddressed_124 rfl (lv_at hl 0 rfl) ?_
              refine lv_iload_n X.1 X.2.1 dX2_performAddressed_125 rfl (lv_at hl 2 rfl) ?_
              refine call_Si X hT Z k_X2_103 (c_X2_next l D cI (cw q cI g (mX2_putWord g mm a2 (g 2))) a2 ) hd_X2_next ⟨by decide, by decide⟩ ⟨rfl, rfl⟩ hl.1 (rest := [.ref (q 0)]) rfl (Nat.le_of_ble_eq_true rfl) ⟨by decide, by decide⟩ dX2_performAddressed_126 (fun H locs Z => ?_)
              refine P_X2_pc X hT Z dX2_performAddressed_129 (fun H locs Z => ?_)
              refine lv_goto (tgt := 140) X.1 X.2.1 dX2_performAddressed_132 (by decide) ?_
              exact K_140 (upd g 2 (rX2_next a2)) (mX2_putWord g mm a2 (g 2)) _ _ _ ((if_neg c_1_0).trans ((if_neg c_1_1).trans ((if_neg c_1_2).trans ((if_neg c_1_3).trans (if_pos c_1_4))))).symm ((if_neg c_1_0).trans ((if_neg c_1_1).trans ((if_neg c_1_2).trans ((if_neg c_1_3).trans (if_pos c_1_4))))).symm (lv_sub hl [0, 1, 2] rfl) Z
            · by_cases hsw : a1.toInt < 0 ∨ 4 < a1.toInt
              · refine lv_tableOut (tgt := 135) X.1 X.2.1 dX2_performAddressed_1 hsw (by decide) ?_
                refine lv_aload_n X.1 X.2.1 dX2_performAddressed_135 rfl (lv_at hl 0 rfl) ?_
                refine lv_iload_n X.1 X.2.1 dX2_performAddressed_136 rfl (lv_at hl 2 rfl) ?_
                refine P_X2_pc X hT Z dX2_performAddressed_137 (fun H locs Z => ?_)
                exact K_140 (upd g 2 a2) mm _ _ _ ((if_neg c_1_0).trans ((if_neg c_1_1).trans ((if_neg c_1_2).trans ((if_neg c_1_3).trans (if_neg c_1_4))))).symm ((if_neg c_1_0).trans ((if_neg c_1_1).trans ((if_neg c_1_2).trans ((if_neg c_1_3).trans (if_neg c_1_4))))).symm (lv_sub hl [0, 1, 2] rfl) Z
              · obtain ⟨j, hj, hx⟩ := sw_def hsw
                have hne : j ≠ 0 ∧ j ≠ 1 ∧ j ≠ 2 ∧ j ≠ 3 ∧ j ≠ 4 := ⟨(fun h => absurd (by omega) (lv_neT (a := 0) c_1_0 (by decide))), (fun h => absurd (by omega) (lv_neT (a := 1) c_1_1 (by decide))), (fun h => absurd (by omega) (lv_neT (a := 2) c_1_2 (by decide))), (fun h => absurd (by omega) (lv_neT (a := 3) c_1_3 (by decide))), (fun h => absurd (by omega) (lv_neT (a := 4) c_1_4 (by decide)))⟩
                omega
  intro j140_g j140_mm ls H locs e_j140_g e_j140_mm hl Z
  exact hret _ _ _ _ _ Z (cw_eq (by subst e_j140_g e_j140_mm; exact rfl) (by subst e_j140_g e_j140_mm; exact rfl)) dX2_performAddressed_140
def gX2_turnLeft (g : Nat → Int32) (mm : Nat → Nat → Int32) (a1 : Int32) : Nat → Int32 := (upd (upd g 1 (((((((g 1) <<< ((12 : Int32) &&& 31)) ||| (g 0)) <<< (a1 &&& 31)) ||| ((((g 1) <<< ((12 : Int32) &&& 31)) ||| (g 0)) >>> ((13 - a1) &&& 31))) &&& 8191) >>> ((12 : Int32) &&& 31))) 0 (((((((g 1) <<< ((12 : Int32) &&& 31)) ||| (g 0)) <<< (a1 &&& 31)) ||| ((((g 1) <<< ((12 : Int32) &&& 31)) ||| (g 0)) >>> ((13 - a1) &&& 31))) &&& 8191) &&& 4095))
set_option maxRecDepth 20000 in
set_option maxHeartbeats 4000000 in
theorem c_X2_turnLeft (l : Launch) (D : va_G) (cI : ClassId) (q : Nat → Nat) (g : Nat → Int32) (mm : Nat → Nat → Int32) (a1 : Int32)  : MI l D cI yX2_turnLeft (.code yX2_turnLeft cX2_turnLeft 4 none) ({ frames := 0, cells := 0, slots := 0, locals := 0 } : Room) [.ref (q 0), .int a1] (cw q cI g mm) (cw q cI (gX2_turnLeft g mm a1) mm) none := by
  refine MI.ofV (own := RX2) (by decide) rfl (Nat.le_of_ble_eq_true rfl) ?_
  intro p e s m args below meth c A ls Q X Z hl hret
  have hT : ∀ w ∈ TB, w ∈ (Cond.code yX2_turnLeft cX2_turnLeft 4 none :: TB) := fun _ h => List.mem_cons_of_mem _ h
  have hl : lv_has ls 4 [(0, .ref (q 0)), (1, .int a1)] := hl
  refine lv_aload_n X.1 X.2.1 dX2_turnLeft_0 rfl (lv_at hl 0 rfl) ?_
  refine G_X2_link X hT Z dX2_turnLeft_1 ?_
  refine lv_bipush (v := 12) X.1 X.2.1 dX2_turnLeft_4 (by decide) ?_
  refine lv_ishl X.1 X.2.1 dX2_turnLeft_6 ?_
  refine lv_aload_n X.1 X.2.1 dX2_turnLeft_7 rfl (lv_at hl 0 rfl) ?_
  refine G_X2_ac X hT Z dX2_turnLeft_8 ?_
  refine lv_ior X.1 X.2.1 dX2_turnLeft_11 ?_
  refine lv_istore_n (lv' := [(2, .int (((g 1) <<< ((12 : Int32) &&& 31)) ||| (g 0))), (0, .ref (q 0)), (1, .int a1)]) X.1 X.2.1 dX2_turnLeft_12 rfl hl (by decide) rfl (fun ls hl => ?_)
  refine lv_iload_n X.1 X.2.1 dX2_turnLeft_13 rfl (lv_at hl 0 rfl) ?_
  refine lv_iload_n X.1 X.2.1 dX2_turnLeft_14 rfl (lv_at hl 2 rfl) ?_
  refine lv_ishl X.1 X.2.1 dX2_turnLeft_15 ?_
  refine lv_iload_n X.1 X.2.1 dX2_turnLeft_16 rfl (lv_at hl 0 rfl) ?_
  refine lv_bipush (v := 13) X.1 X.2.1 dX2_turnLeft_17 (by decide) ?_
  refine lv_iload_n X.1 X.2.1 dX2_turnLeft_19 rfl (lv_at hl 2 rfl) ?_
  refine lv_isub X.1 X.2.1 dX2_turnLeft_20 ?_
  refine lv_ishr X.1 X.2.1 dX2_turnLeft_21 ?_
  refine lv_ior X.1 X.2.1 dX2_turnLeft_22 ?_
  refine lv_sipush (v := 8191) X.1 X.2.1 dX2_turnLeft_23 (by decide) ?_
  refine lv_iand X.1 X.2.1 dX2_turnLeft_26 ?_
  refine lv_istore_n (lv' := [(3, .int ((((((g 1) <<< ((12 : Int32) &&& 31)) ||| (g 0)) <<< (a1 &&& 31)) ||| ((((g 1) <<< ((12 : Int32) &&& 31)) ||| (g 0)) >>> ((13 - a1) &&& 31))) &&& 8191)), (2, .int (((g 1) <<< ((12 : Int32) &&& 31)) ||| (g 0))), (0, .ref (q 0)), (1, .int a1)]) X.1 X.2.1 dX2_turnLeft_27 rfl hl (by decide) rfl (fun ls hl => ?_)
  refine lv_aload_n X.1 X.2.1 dX2_turnLeft_28 rfl (lv_at hl 2 rfl) ?_
  refine lv_iload_n X.1 X.2.1 dX2_turnLeft_29 rfl (lv_at hl 0 rfl) ?_
  refine lv_bipush (v := 12) X.1 X.2.1 dX2_turnLeft_30 (by decide) ?_
  refine lv_ishr X.1 X.2.1 dX2_turnLeft_32 ?_
  refine P_X2_link X hT Z dX2_turnLeft_33 (fun H locs Z => ?_)
  refine lv_aload_n X.1 X.2.1 dX2_turnLeft_36 rfl (lv_at hl 2 rfl) ?_
  refine lv_iload_n X.1 X.2.1 dX2_turnLeft_37 rfl (lv_at hl 0 rfl) ?_
  refine lv_sipush (v := 4095) X.1 X.2.1 dX2_turnLeft_38 (by decide) ?_
  refine lv_iand X.1 X.2.1 dX2_turnLeft_41 ?_
  refine P_X2_ac X hT Z dX2_turnLeft_42 (fun H locs Z => ?_)
  exact hret _ _ _ _ _ Z (cw_eq rfl rfl) dX2_turnLeft_45
