def uX2_isAddress_j16_s0 (a1 : Int32) : Int32 := if a1 < (0 : Int32) then (0) else (if (4096 : Int32) ≤ a1 then (0) else (1))
def rX2_isAddress  (a1 : Int32) : Int32 := let j16_s0 : Int32 := uX2_isAddress_j16_s0 a1; j16_s0
set_option maxRecDepth 20000 in
set_option maxHeartbeats 4000000 in
theorem c_X2_isAddress (l : Launch) (D : va_G) (cI : ClassId) (ws : va_W) (a1 : Int32)  : MI l D cI yX2_isAddress (.code yX2_isAddress cX2_isAddress 1 (some .boolean)) ({ frames := 0, cells := 0, slots := 0, locals := 0 } : Room) [.int a1] (ws) (ws) (some (.int (rX2_isAddress a1))) := by
  refine MI.ofZ (own := RX2) (by decide) rfl (Nat.le_of_ble_eq_true rfl) ?_
  intro p e s m args below meth c A ls Q X Z hl hret
  have hT : ∀ w ∈ TB, w ∈ (Cond.code yX2_isAddress cX2_isAddress 1 (some .boolean) :: TB) := fun _ h => List.mem_cons_of_mem _ h
  have hl : lv_has ls 1 [(0, .int a1)] := hl
  refine lv_iload_n X.1 X.2.1 dX2_isAddress_0 rfl (lv_at hl 0 rfl) ?_
  suffices K_16 : ∀ (j16_s0 : Int32) (ls : Array Slot) (H : Heap) (locs : List Loc), j16_s0 = uX2_isAddress_j16_s0 a1 → lv_has ls 1 [(0, .int a1)] → ZZ D cI (ws) A s H locs → W p l e ({ frames := 0, cells := 0, slots := 0, locals := 0 } : Room) s m args below meth c H locs 0 0 Q (F0 m 16 ls [.int j16_s0]) by
    refine lv_if_lt (tgt := 15) X.1 X.2.1 dX2_isAddress_1 (by decide) (fun c_1 => ?_) (fun c_1 => ?_)
    · refine lv_iconst (v := 0) X.1 X.2.1 dX2_isAddress_15 (by decide) ?_
      exact K_16 0 _ _ _ (if_pos c_1).symm (lv_sub hl [0] rfl) Z
    · refine lv_iload_n X.1 X.2.1 dX2_isAddress_4 rfl (lv_at hl 0 rfl) ?_
      refine lv_sipush (v := 4096) X.1 X.2.1 dX2_isAddress_5 (by decide) ?_
      refine lv_icmp_ge (tgt := 15) X.1 X.2.1 dX2_isAddress_8 (by decide) (fun c_8 => ?_) (fun c_8 => ?_)
      · refine lv_iconst (v := 0) X.1 X.2.1 dX2_isAddress_15 (by decide) ?_
        exact K_16 0 _ _ _ ((if_neg c_1).trans (if_pos c_8)).symm (lv_sub hl [0] rfl) Z
      · refine lv_iconst (v := 1) X.1 X.2.1 dX2_isAddress_11 (by decide) ?_
        refine lv_goto (tgt := 16) X.1 X.2.1 dX2_isAddress_12 (by decide) ?_
        exact K_16 1 _ _ _ ((if_neg c_1).trans (if_neg c_8)).symm (lv_sub hl [0] rfl) Z
  intro j16_s0 ls H locs e_j16_s0 hl Z
  exact hret _ _ _ _ _ _ Z rfl (by subst e_j16_s0; exact rfl) (by subst_vars; first | exact nb_if | exact nb_if2 | (unfold uX2_isAddress_j16_s0; (repeat' split) <;> rfl)) dX2_isAddress_16
def uX2_bit_j9_s0 (a1 : Int32) : Int32 := if a1 = 0 then (0) else (1)
def rX2_bit  (a1 : Int32) : Int32 := let j9_s0 : Int32 := uX2_bit_j9_s0 a1; j9_s0
set_option maxRecDepth 20000 in
set_option maxHeartbeats 4000000 in
theorem c_X2_bit (l : Launch) (D : va_G) (cI : ClassId) (ws : va_W) (a1 : Int32)  : MI l D cI yX2_bit (.code yX2_bit cX2_bit 1 (some .int)) ({ frames := 0, cells := 0, slots := 0, locals := 0 } : Room) [.int a1] (ws) (ws) (some (.int (rX2_bit a1))) := by
  refine MI.ofI (own := RX2) (by decide) rfl (Nat.le_of_ble_eq_true rfl) ?_
  intro p e s m args below meth c A ls Q X Z hl hret
  have hT : ∀ w ∈ TB, w ∈ (Cond.code yX2_bit cX2_bit 1 (some .int) :: TB) := fun _ h => List.mem_cons_of_mem _ h
  have hl : lv_has ls 1 [(0, .int a1)] := hl
  refine lv_iload_n X.1 X.2.1 dX2_bit_0 rfl (lv_at hl 0 rfl) ?_
  suffices K_9 : ∀ (j9_s0 : Int32) (ls : Array Slot) (H : Heap) (locs : List Loc), j9_s0 = uX2_bit_j9_s0 a1 → lv_has ls 1 [(0, .int a1)] → ZZ D cI (ws) A s H locs → W p l e ({ frames := 0, cells := 0, slots := 0, locals := 0 } : Room) s m args below meth c H locs 0 0 Q (F0 m 9 ls [.int j9_s0]) by
    refine lv_if_eq (tgt := 8) X.1 X.2.1 dX2_bit_1 (by decide) (fun c_1 => ?_) (fun c_1 => ?_)
    · refine lv_iconst (v := 0) X.1 X.2.1 dX2_bit_8 (by decide) ?_
      exact K_9 0 _ _ _ (if_pos c_1).symm (lv_sub hl [0] rfl) Z
    · refine lv_iconst (v := 1) X.1 X.2.1 dX2_bit_4 (by decide) ?_
      refine lv_goto (tgt := 9) X.1 X.2.1 dX2_bit_5 (by decide) ?_
      exact K_9 1 _ _ _ (if_neg c_1).symm (lv_sub hl [0] rfl) Z
  intro j9_s0 ls H locs e_j9_s0 hl Z
  exact hret _ _ _ _ _ _ Z rfl (by subst e_j9_s0; exact rfl) dX2_bit_9
def uX2_has_j11_s0 (a1 : Int32) (a2 : Int32) : Int32 := if (a1 &&& a2) = 0 then (0) else (1)
def rX2_has  (a1 : Int32) (a2 : Int32) : Int32 := let j11_s0 : Int32 := uX2_has_j11_s0 a1 a2; j11_s0
set_option maxRecDepth 20000 in
set_option maxHeartbeats 4000000 in
theorem c_X2_has (l : Launch) (D : va_G) (cI : ClassId) (ws : va_W) (a1 : Int32) (a2 : Int32)  : MI l D cI yX2_has (.code yX2_has cX2_has 2 (some .boolean)) ({ frames := 0, cells := 0, slots := 0, locals := 0 } : Room) [.int a1, .int a2] (ws) (ws) (some (.int (rX2_has a1 a2))) := by
  refine MI.ofZ (own := RX2) (by decide) rfl (Nat.le_of_ble_eq_true rfl) ?_
  intro p e s m args below meth c A ls Q X Z hl hret
  have hT : ∀ w ∈ TB, w ∈ (Cond.code yX2_has cX2_has 2 (some .boolean) :: TB) := fun _ h => List.mem_cons_of_mem _ h
  have hl : lv_has ls 2 [(0, .int a1), (1, .int a2)] := hl
  refine lv_iload_n X.1 X.2.1 dX2_has_0 rfl (lv_at hl 0 rfl) ?_
  refine lv_iload_n X.1 X.2.1 dX2_has_1 rfl (lv_at hl 1 rfl) ?_
  refine lv_iand X.1 X.2.1 dX2_has_2 ?_
  suffices K_11 : ∀ (j11_s0 : Int32) (ls : Array Slot) (H : Heap) (locs : List Loc), j11_s0 = uX2_has_j11_s0 a1 a2 → lv_has ls 2 [(0, .int a1), (1, .int a2)] → ZZ D cI (ws) A s H locs → W p l e ({ frames := 0, cells := 0, slots := 0, locals := 0 } : Room) s m args below meth c H locs 0 0 Q (F0 m 11 ls [.int j11_s0]) by
    refine lv_if_eq (tgt := 10) X.1 X.2.1 dX2_has_3 (by decide) (fun c_3 => ?_) (fun c_3 => ?_)
    · refine lv_iconst (v := 0) X.1 X.2.1 dX2_has_10 (by decide) ?_
      exact K_11 0 _ _ _ (if_pos c_3).symm (lv_sub hl [0, 1] rfl) Z
    · refine lv_iconst (v := 1) X.1 X.2.1 dX2_has_6 (by decide) ?_
      refine lv_goto (tgt := 11) X.1 X.2.1 dX2_has_7 (by decide) ?_
      exact K_11 1 _ _ _ (if_neg c_3).symm (lv_sub hl [0, 1] rfl) Z
  intro j11_s0 ls H locs e_j11_s0 hl Z
  exact hret _ _ _ _ _ _ Z rfl (by subst e_j11_s0; exact rfl) (by subst_vars; first | exact nb_if | exact nb_if2 | (unfold uX2_has_j11_s0; (repeat' split) <;> rfl)) dX2_has_11
def rX2_next  (a1 : Int32) : Int32 := ((a1 + 1) &&& 4095)
set_option maxRecDepth 20000 in
set_option maxHeartbeats 4000000 in
theorem c_X2_next (l : Launch) (D : va_G) (cI : ClassId) (ws : va_W) (a1 : Int32)  : MI l D cI yX2_next (.code yX2_next cX2_next 1 (some .int)) ({ frames := 0, cells := 0, slots := 0, locals := 0 } : Room) [.int a1] (ws) (ws) (some (.int (rX2_next a1))) := by
  refine MI.ofI (own := RX2) (by decide) rfl (Nat.le_of_ble_eq_true rfl) ?_
  intro p e s m args below meth c A ls Q X Z hl hret
  have hT : ∀ w ∈ TB, w ∈ (Cond.code yX2_next cX2_next 1 (some .int) :: TB) := fun _ h => List.mem_cons_of_mem _ h
  have hl : lv_has ls 1 [(0, .int a1)] := hl
  refine lv_iload_n X.1 X.2.1 dX2_next_0 rfl (lv_at hl 0 rfl) ?_
  refine lv_iconst (v := 1) X.1 X.2.1 dX2_next_1 (by decide) ?_
  refine lv_iadd X.1 X.2.1 dX2_next_2 ?_
  refine lv_sipush (v := 4095) X.1 X.2.1 dX2_next_3 (by decide) ?_
  refine lv_iand X.1 X.2.1 dX2_next_6 ?_
  exact hret _ _ _ _ _ _ Z rfl rfl dX2_next_7
def uX3_has_j14_s0 (a1 : Int32) (a2 : Int32) : Int32 := if ((a1 / a2) - (a1 / a2) / 2 * 2) = 1 then (1) else (0)
def rX3_has  (a1 : Int32) (a2 : Int32) : Int32 := let j14_s0 : Int32 := uX3_has_j14_s0 a1 a2; j14_s0
set_option maxRecDepth 20000 in
set_option maxHeartbeats 4000000 in
theorem c_X3_has (l : Launch) (D : va_G) (cI : ClassId) (ws : va_W) (a1 : Int32) (a2 : Int32) (h2 : ¬ a2 = 0) : MI l D cI yX3_has (.code yX3_has cX3_has 2 (some .boolean)) ({ frames := 0, cells := 0, slots := 0, locals := 0 } : Room) [.int a1, .int a2] (ws) (ws) (some (.int (rX3_has a1 a2))) := by
  refine MI.ofZ (own := RX3) (by decide) rfl (Nat.le_of_ble_eq_true rfl) ?_
  intro p e s m args below meth c A ls Q X Z hl hret
  have hT : ∀ w ∈ TB, w ∈ (Cond.code yX3_has cX3_has 2 (some .boolean) :: TB) := fun _ h => List.mem_cons_of_mem _ h
  have hl : lv_has ls 2 [(0, .int a1), (1, .int a2)] := hl
  refine lv_iload_n X.1 X.2.1 dX3_has_0 rfl (lv_at hl 0 rfl) ?_
  refine lv_iload_n X.1 X.2.1 dX3_has_1 rfl (lv_at hl 1 rfl) ?_
  refine lv_idiv X.1 X.2.1 dX3_has_2 h2 ?_
  refine lv_iconst (v := 2) X.1 X.2.1 dX3_has_3 (by decide) ?_
  refine lv_irem X.1 X.2.1 dX3_has_4 (by decide) ?_
  refine lv_iconst (v := 1) X.1 X.2.1 dX3_has_5 (by decide) ?_
  suffices K_14 : ∀ (j14_s0 : Int32) (ls : Array Slot) (H : Heap) (locs : List Loc), j14_s0 = uX3_has_j14_s0 a1 a2 → lv_has ls 2 [(0, .int a1), (1, .int a2)] → ZZ D cI (ws) A s H locs → W p l e ({ frames := 0, cells := 0, slots := 0, locals := 0 } : Room) s m args below meth c H locs 0 0 Q (F0 m 14 ls [.int j14_s0]) by
    refine lv_icmp_ne (tgt := 13) X.1 X.2.1 dX3_has_6 (by decide) (fun c_6 => ?_) (fun c_6 => ?_)
    · refine lv_iconst (v := 0) X.1 X.2.1 dX3_has_13 (by decide) ?_
      exact K_14 0 _ _ _ (if_neg c_6).symm (lv_sub hl [0, 1] rfl) Z
    · refine lv_iconst (v := 1) X.1 X.2.1 dX3_has_9 (by decide) ?_
      refine lv_goto (tgt := 14) X.1 X.2.1 dX3_has_10 (by decide) ?_
      exact K_14 1 _ _ _ (if_pos c_6).symm (lv_sub hl [0, 1] rfl) Z
  intro j14_s0 ls H locs e_j14_s0 hl Z
  exact hret _ _ _ _ _ _ Z rfl (by subst e_j14_s0; exact rfl) (by subst_vars; first | exact nb_if | exact nb_if2 | (unfold uX3_has_j14_s0; (repeat' split) <;> rfl)) dX3_has_14
def uX3_after_j14_s0 (a1 : Int32) : Int32 := if a1 = 4095 then (0) else ((a1 + 1))
def rX3_after  (a1 : Int32) : Int32 := let j14_s0 : Int32 := uX3_after_j14_s0 a1; j14_s0
set_option maxRecDepth 20000 in
set_option maxHeartbeats 4000000 in
theorem c_X3_after (l : Launch) (D : va_G) (cI : ClassId) (ws : va_W) (a1 : Int32)  : MI l D cI yX3_after (.code yX3_after cX3_after 1 (some .int)) ({ frames := 0, cells := 0, slots := 0, locals := 0 } : Room) [.int a1] (ws) (ws) (some (.int (rX3_after a1))) := by
  refine MI.ofI (own := RX3) (by decide) rfl (Nat.le_of_ble_eq_true rfl) ?_
  intro p e s m args below meth c A ls Q X Z hl hret
  have hT : ∀ w ∈ TB, w ∈ (Cond.code yX3_after cX3_after 1 (some .int) :: TB) := fun _ h => List.mem_cons_of_mem _ h
  have hl : lv_has ls 1 [(0, .int a1)] := hl
  refine lv_iload_n X.1 X.2.1 dX3_after_0 rfl (lv_at hl 0 rfl) ?_
  refine lv_sipush (v := 4095) X.1 X.2.1 dX3_after_1 (by decide) ?_
  suffices K_14 : ∀ (j14_s0 : Int32) (ls : Array Slot) (H : Heap) (locs : List Loc), j14_s0 = uX3_after_j14_s0 a1 → lv_has ls 1 [(0, .int a1)] → ZZ D cI (ws) A s H locs → W p l e ({ frames := 0, cells := 0, slots := 0, locals := 0 } : Room) s m args below meth c H locs 0 0 Q (F0 m 14 ls [.int j14_s0]) by
    refine lv_icmp_ne (tgt := 11) X.1 X.2.1 dX3_after_4 (by decide) (fun c_4 => ?_) (fun c_4 => ?_)
    · refine lv_iload_n X.1 X.2.1 dX3_after_11 rfl (lv_at hl 0 rfl) ?_
      refine lv_iconst (v := 1) X.1 X.2.1 dX3_after_12 (by decide) ?_
      refine lv_iadd X.1 X.2.1 dX3_after_13 ?_
      exact K_14 (a1 + 1) _ _ _ (if_neg c_4).symm (lv_sub hl [0] rfl) Z
    · refine lv_iconst (v := 0) X.1 X.2.1 dX3_after_7 (by decide) ?_
      refine lv_goto (tgt := 14) X.1 X.2.1 dX3_after_8 (by decide) ?_
      exact K_14 0 _ _ _ (if_pos c_4).symm (lv_sub hl [0] rfl) Z
  intro j14_s0 ls H locs e_j14_s0 hl Z
  exact hret _ _ _ _ _ _ Z rfl (by subst e_j14_s0; exact rfl) dX3_after_14
