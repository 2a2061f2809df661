def fdX0_append (fd : Int32) (tk : Int32) (bf : Int32) (fl : Int32) (tp : Nat → Int32) (a1 : Int32) : Int32 := if a1 < (0 : Int32) then (fd) else (if (255 : Int32) < a1 then (fd) else (if fd < (400 : Int32) then ((fd + 1)) else (fd)))
def tpX0_append (fd : Int32) (tk : Int32) (bf : Int32) (fl : Int32) (tp : Nat → Int32) (a1 : Int32) : Nat → Int32 := if a1 < (0 : Int32) then (tp) else (if (255 : Int32) < a1 then (tp) else (if fd < (400 : Int32) then ((upd tp fd.toNatClampNeg a1)) else (tp)))
def rX0_append (fd : Int32) (tk : Int32) (bf : Int32) (fl : Int32) (tp : Nat → Int32) (a1 : Int32) : Int32 := if a1 < (0 : Int32) then (0) else (if (255 : Int32) < a1 then (0) else (if fd < (400 : Int32) then (1) else (0)))
set_option maxRecDepth 20000 in
set_option maxHeartbeats 4000000 in
theorem c_X0_append (l : Launch) (D : va_G) (cI : ClassId) (a b : Nat) (fd tk bf fl : Int32) (tp : Nat → Int32) (a1 : Int32) (hf : ¬ fd < 0) : MI l D cI yX0_append (.code yX0_append cX0_append 2 (some .boolean)) ({ frames := 0, cells := 0, slots := 0, locals := 0 } : Room) [.ref a, .int a1] (rdw a b cI fd tk bf fl tp) (rdw a b cI (fdX0_append fd tk bf fl tp a1) tk bf fl (tpX0_append fd tk bf fl tp a1)) (some (.int (rX0_append fd tk bf fl tp a1))) := by
  refine MI.ofZ (own := RX0) (by decide) rfl (Nat.le_of_ble_eq_true rfl) ?_
  intro p e s m args below meth c A ls Q X Z hl hret
  have hT : ∀ w ∈ TB, w ∈ (Cond.code yX0_append cX0_append 2 (some .boolean) :: TB) := fun _ h => List.mem_cons_of_mem _ h
  have hl : lv_has ls 2 [(0, .ref a), (1, .int a1)] := hl
  refine lv_iload_n X.1 X.2.1 dX0_append_0 rfl (lv_at hl 1 rfl) ?_
  refine lv_if_lt (tgt := 21) X.1 X.2.1 dX0_append_1 (by decide) (fun c_1 => ?_) (fun c_1 => ?_)
  · refine lv_iconst (v := 0) X.1 X.2.1 dX0_append_21 (by decide) ?_
    exact hret _ _ _ _ _ _ Z (rdw_eq (if_pos c_1).symm rfl rfl rfl (if_pos c_1).symm) (if_pos c_1).symm rfl dX0_append_22
  · refine lv_iload_n X.1 X.2.1 dX0_append_4 rfl (lv_at hl 1 rfl) ?_
    refine lv_sipush (v := 255) X.1 X.2.1 dX0_append_5 (by decide) ?_
    refine lv_icmp_gt (tgt := 21) X.1 X.2.1 dX0_append_8 (by decide) (fun c_8 => ?_) (fun c_8 => ?_)
    · refine lv_iconst (v := 0) X.1 X.2.1 dX0_append_21 (by decide) ?_
      exact hret _ _ _ _ _ _ Z (rdw_eq ((if_neg c_1).trans (if_pos c_8)).symm rfl rfl rfl ((if_neg c_1).trans (if_pos c_8)).symm) ((if_neg c_1).trans (if_pos c_8)).symm rfl dX0_append_22
    · refine lv_aload_n X.1 X.2.1 dX0_append_11 rfl (lv_at hl 0 rfl) ?_
      refine G_X0_fed X hT Z dX0_append_12 ?_
      refine lv_sipush (v := 400) X.1 X.2.1 dX0_append_15 (by decide) ?_
      refine lv_icmp_lt (tgt := 23) X.1 X.2.1 dX0_append_18 (by decide) (fun c_18 => ?_) (fun c_18 => ?_)
      · refine lv_aload_n X.1 X.2.1 dX0_append_23 rfl (lv_at hl 0 rfl) ?_
        refine G_X0_tape X hT Z dX0_append_24 ?_
        refine lv_aload_n X.1 X.2.1 dX0_append_27 rfl (lv_at hl 0 rfl) ?_
        refine G_X0_fed X hT Z dX0_append_28 ?_
        refine lv_iload_n X.1 X.2.1 dX0_append_31 rfl (lv_at hl 1 rfl) ?_
        refine S_X0_tape (j := fd.toNatClampNeg) X Z (vin_lt hf c_18 (by decide)) rfl dX0_append_32 (fun H locs Z => ?_)
        refine lv_aload_n X.1 X.2.1 dX0_append_33 rfl (lv_at hl 0 rfl) ?_
        refine lv_dup X.1 X.2.1 dX0_append_34 rfl ?_
        refine G_X0_fed X hT Z dX0_append_35 ?_
        refine lv_iconst (v := 1) X.1 X.2.1 dX0_append_38 (by decide) ?_
        refine lv_iadd X.1 X.2.1 dX0_append_39 ?_
        refine P_X0_fed X hT Z dX0_append_40 (fun H locs Z => ?_)
        refine lv_iconst (v := 1) X.1 X.2.1 dX0_append_43 (by decide) ?_
        exact hret _ _ _ _ _ _ Z (rdw_eq ((if_neg c_1).trans ((if_neg c_8).trans (if_pos c_18))).symm rfl rfl rfl ((if_neg c_1).trans ((if_neg c_8).trans (if_pos c_18))).symm) ((if_neg c_1).trans ((if_neg c_8).trans (if_pos c_18))).symm rfl dX0_append_44
      · refine lv_iconst (v := 0) X.1 X.2.1 dX0_append_21 (by decide) ?_
        exact hret _ _ _ _ _ _ Z (rdw_eq ((if_neg c_1).trans ((if_neg c_8).trans (if_neg c_18))).symm rfl rfl rfl ((if_neg c_1).trans ((if_neg c_8).trans (if_neg c_18))).symm) ((if_neg c_1).trans ((if_neg c_8).trans (if_neg c_18))).symm rfl dX0_append_22
def rX0_unread (fd : Int32) (tk : Int32) (bf : Int32) (fl : Int32) (tp : Nat → Int32)  : Int32 := (fd - tk)
set_option maxRecDepth 20000 in
set_option maxHeartbeats 4000000 in
theorem c_X0_unread (l : Launch) (D : va_G) (cI : ClassId) (a b : Nat) (fd tk bf fl : Int32) (tp : Nat → Int32)   : MI l D cI yX0_unread (.code yX0_unread cX0_unread 1 (some .int)) ({ frames := 0, cells := 0, slots := 0, locals := 0 } : Room) [.ref a] (rdw a b cI fd tk bf fl tp) (rdw a b cI fd tk bf fl tp) (some (.int (rX0_unread fd tk bf fl tp))) := by
  refine MI.ofI (own := RX0) (by decide) rfl (Nat.le_of_ble_eq_true rfl) ?_
  intro p e s m args below meth c A ls Q X Z hl hret
  have hT : ∀ w ∈ TB, w ∈ (Cond.code yX0_unread cX0_unread 1 (some .int) :: TB) := fun _ h => List.mem_cons_of_mem _ h
  have hl : lv_has ls 1 [(0, .ref a)] := hl
  refine lv_aload_n X.1 X.2.1 dX0_unread_0 rfl (lv_at hl 0 rfl) ?_
  refine G_X0_fed X hT Z dX0_unread_1 ?_
  refine lv_aload_n X.1 X.2.1 dX0_unread_4 rfl (lv_at hl 0 rfl) ?_
  refine G_X0_taken X hT Z dX0_unread_5 ?_
  refine lv_isub X.1 X.2.1 dX0_unread_8 ?_
  exact hret _ _ _ _ _ _ Z (rdw_eq rfl rfl rfl rfl rfl) rfl dX0_unread_9
def uX0_restart_j44_tk (fd : Int32) (tk : Int32) : Int32 := if fd ≤ tk then (tk) else ((tk + 1))
def uX0_restart_j44_bf (fd : Int32) (tk : Int32) (bf : Int32) (tp : Nat → Int32) : Int32 := if fd ≤ tk then (bf) else ((tp tk.toNatClampNeg))
def uX0_restart_j44_fl (fd : Int32) (tk : Int32) : Int32 := if fd ≤ tk then (0) else (1)
def tkX0_restart (fd : Int32) (tk : Int32) (bf : Int32) (fl : Int32) (tp : Nat → Int32)  : Int32 := let j44_tk : Int32 := uX0_restart_j44_tk fd tk; j44_tk
def bfX0_restart (fd : Int32) (tk : Int32) (bf : Int32) (fl : Int32) (tp : Nat → Int32)  : Int32 := let j44_bf : Int32 := uX0_restart_j44_bf fd tk bf tp; j44_bf
def flX0_restart (fd : Int32) (tk : Int32) (bf : Int32) (fl : Int32) (tp : Nat → Int32)  : Int32 := let j44_fl : Int32 := uX0_restart_j44_fl fd tk; j44_fl
set_option maxRecDepth 20000 in
set_option maxHeartbeats 4000000 in
theorem c_X0_restart (l : Launch) (D : va_G) (cI : ClassId) (a b : Nat) (fd tk bf fl : Int32) (tp : Nat → Int32)  (ht : ¬ fd ≤ tk → vp_in tk 400) : MI l D cI yX0_restart (.code yX0_restart cX0_restart 1 none) ({ frames := 0, cells := 0, slots := 0, locals := 0 } : Room) [.ref a] (rdw a b cI fd tk bf fl tp) (rdw a b cI fd (tkX0_restart fd tk bf fl tp) (bfX0_restart fd tk bf fl tp) (flX0_restart fd tk bf fl tp) tp) none := by
  refine MI.ofV (own := RX0) (by decide) rfl (Nat.le_of_ble_eq_true rfl) ?_
  intro p e s m args below meth c A ls Q X Z hl hret
  have hT : ∀ w ∈ TB, w ∈ (Cond.code yX0_restart cX0_restart 1 none :: TB) := fun _ h => List.mem_cons_of_mem _ h
  have hl : lv_has ls 1 [(0, .ref a)] := hl
  refine lv_aload_n X.1 X.2.1 dX0_restart_0 rfl (lv_at hl 0 rfl) ?_
  refine lv_iconst (v := 0) X.1 X.2.1 dX0_restart_1 (by decide) ?_
  refine P_X0_flag X hT Z ⟨rfl, rfl⟩ dX0_restart_2 (fun H locs Z => ?_)
  refine lv_aload_n X.1 X.2.1 dX0_restart_5 rfl (lv_at hl 0 rfl) ?_
  refine G_X0_taken X hT Z dX0_restart_6 ?_
  refine lv_aload_n X.1 X.2.1 dX0_restart_9 rfl (lv_at hl 0 rfl) ?_
  refine G_X0_fed X hT Z dX0_restart_10 ?_
  suffices K_44 : ∀ (j44_tk : Int32) (j44_bf : Int32) (j44_fl : Int32) (ls : Array Slot) (H : Heap) (locs : List Loc), j44_tk = uX0_restart_j44_tk fd tk → j44_bf = uX0_restart_j44_bf fd tk bf tp → j44_fl = uX0_restart_j44_fl fd tk → lv_has ls 1 [(0, .ref a)] → ZZ D cI (rdw a b cI fd j44_tk j44_bf j44_fl tp) A s H locs → W p l e ({ frames := 0, cells := 0, slots := 0, locals := 0 } : Room) s m args below meth c H locs 0 0 Q (F0 m 44 ls []) by
    refine lv_icmp_ge (tgt := 44) X.1 X.2.1 dX0_restart_13 (by decide) (fun c_13 => ?_) (fun c_13 => ?_)
    · exact K_44 tk bf 0 _ _ _ (if_pos c_13).symm (if_pos c_13).symm (if_pos c_13).symm (lv_sub hl [0] rfl) Z
    · refine lv_aload_n X.1 X.2.1 dX0_restart_16 rfl (lv_at hl 0 rfl) ?_
      refine lv_aload_n X.1 X.2.1 dX0_restart_17 rfl (lv_at hl 0 rfl) ?_
      refine G_X0_tape X hT Z dX0_restart_18 ?_
      refine lv_aload_n X.1 X.2.1 dX0_restart_21 rfl (lv_at hl 0 rfl) ?_
      refine G_X0_taken X hT Z dX0_restart_22 ?_
      refine L_X0_tape (j := tk.toNatClampNeg) X Z (ht c_13) rfl dX0_restart_25 ?_
      refine P_X0_buffer X hT Z dX0_restart_26 (fun H locs Z => ?_)
      refine lv_aload_n X.1 X.2.1 dX0_restart_29 rfl (lv_at hl 0 rfl) ?_
      refine lv_dup X.1 X.2.1 dX0_restart_30 rfl ?_
      refine G_X0_taken X hT Z dX0_restart_31 ?_
      refine lv_iconst (v := 1) X.1 X.2.1 dX0_restart_34 (by decide) ?_
      refine lv_iadd X.1 X.2.1 dX0_restart_35 ?_
      refine P_X0_taken X hT Z dX0_restart_36 (fun H locs Z => ?_)
      refine lv_aload_n X.1 X.2.1 dX0_restart_39 rfl (lv_at hl 0 rfl) ?_
      refine lv_iconst (v := 1) X.1 X.2.1 dX0_restart_40 (by decide) ?_
      refine P_X0_flag X hT Z ⟨rfl, rfl⟩ dX0_restart_41 (fun H locs Z => ?_)
      exact K_44 (tk + 1) (tp tk.toNatClampNeg) 1 _ _ _ (if_neg c_13).symm (if_neg c_13).symm (if_neg c_13).symm (lv_sub hl [0] rfl) Z
  intro j44_tk j44_bf j44_fl ls H locs e_j44_tk e_j44_bf e_j44_fl hl Z
  exact hret _ _ _ _ _ Z (rdw_eq rfl (by subst e_j44_tk e_j44_bf e_j44_fl; exact rfl) (by subst e_j44_tk e_j44_bf e_j44_fl; exact rfl) (by subst e_j44_tk e_j44_bf e_j44_fl; exact rfl) rfl) dX0_restart_44
def ctX1_add (ct : Int32) (rw : Nat → Int32) (a1 : Int32) : Int32 := (ct + 1)
def rwX1_add (ct : Int32) (rw : Nat → Int32) (a1 : Int32) : Nat → Int32 := (upd rw ((ct &&& 63).toNatClampNeg) a1)
set_option maxRecDepth 20000 in
set_option maxHeartbeats 4000000 in
theorem c_X1_add (l : Launch) (D : va_G) (cI : ClassId) (a b : Nat) (ct : Int32) (rw : Nat → Int32) (a1 : Int32)  : MI l D cI yX1_add (.code yX1_add cX1_add 2 none) ({ frames := 0, cells := 0, slots := 0, locals := 0 } : Room) [.ref a, .int a1] (rcw a b cI ct rw) (rcw a b cI (ctX1_add ct rw a1) (rwX1_add ct rw a1)) none := by
  refine MI.ofV (own := RX1) (by decide) rfl (Nat.le_of_ble_eq_true rfl) ?_
  intro p e s m args below meth c A ls Q X Z hl hret
  have hT : ∀ w ∈ TB, w ∈ (Cond.code yX1_add cX1_add 2 none :: TB) := fun _ h => List.mem_cons_of_mem _ h
  have hl : lv_has ls 2 [(0, .ref a), (1, .int a1)] := hl
  refine lv_aload_n X.1 X.2.1 dX1_add_0 rfl (lv_at hl 0 rfl) ?_
  refine G_X1_row X hT Z dX1_add_1 ?_
  refine lv_aload_n X.1 X.2.1 dX1_add_4 rfl (lv_at hl 0 rfl) ?_
  refine G_X1_count X hT Z dX1_add_5 ?_
  refine lv_bipush (v := 63) X.1 X.2.1 dX1_add_8 (by decide) ?_
  refine lv_iand X.1 X.2.1 dX1_add_10 ?_
  refine lv_iload_n X.1 X.2.1 dX1_add_11 rfl (lv_at hl 1 rfl) ?_
  refine S_X1_row (j := (ct &&& 63).toNatClampNeg) X Z (vin63 _) rfl dX1_add_12 (fun H locs Z => ?_)
  refine lv_aload_n X.1 X.2.1 dX1_add_13 rfl (lv_at hl 0 rfl) ?_
  refine lv_dup X.1 X.2.1 dX1_add_14 rfl ?_
  refine G_X1_count X hT Z dX1_add_15 ?_
  refine lv_iconst (v := 1) X.1 X.2.1 dX1_add_18 (by decide) ?_
  refine lv_iadd X.1 X.2.1 dX1_add_19 ?_
  refine P_X1_count X hT Z dX1_add_20 (fun H locs Z => ?_)
  exact hret _ _ _ _ _ Z (rcw_eq rfl rfl) dX1_add_23
def rX1_fromLatest (ct : Int32) (rw : Nat → Int32) (a1 : Int32) : Int32 := if a1 < (0 : Int32) then ((-1)) else (if (64 : Int32) ≤ a1 then ((-1)) else (if a1 < ct then ((rw ((((ct - 1) - a1) &&& 63).toNatClampNeg))) else ((-1))))
set_option maxRecDepth 20000 in
set_option maxHeartbeats 4000000 in
theorem c_X1_fromLatest (l : Launch) (D : va_G) (cI : ClassId) (a b : Nat) (ct : Int32) (rw : Nat → Int32) (a1 : Int32)  : MI l D cI yX1_fromLatest (.code yX1_fromLatest cX1_fromLatest 2 (some .int)) ({ frames := 0, cells := 0, slots := 0, locals := 0 } : Room) [.ref a, .int a1] (rcw a b cI ct rw) (rcw a b cI ct rw) (some (.int (rX1_fromLatest ct rw a1))) := by
  refine MI.ofI (own := RX1) (by decide) rfl (Nat.le_of_ble_eq_true rfl) ?_
  intro p e s m args below meth c A ls Q X Z hl hret
  have hT : ∀ w ∈ TB, w ∈ (Cond.code yX1_fromLatest cX1_fromLatest 2 (some .int) :: TB) := fun _ h => List.mem_cons_of_mem _ h
  have hl : lv_has ls 2 [(0, .ref a), (1, .int a1)] := hl
  refine lv_iload_n X.1 X.2.1 dX1_fromLatest_0 rfl (lv_at hl 1 rfl) ?_
  refine lv_if_lt (tgt := 18) X.1 X.2.1 dX1_fromLatest_1 (by decide) (fun c_1 => ?_) (fun c_1 => ?_)
  · refine lv_iconst (v := (-1)) X.1 X.2.1 dX1_fromLatest_18 (by decide) ?_
    exact hret _ _ _ _ _ _ Z (rcw_eq rfl rfl) (if_pos c_1).symm dX1_fromLatest_19
  · refine lv_iload_n X.1 X.2.1 dX1_fromLatest_4 rfl (lv_at hl 1 rfl) ?_
    refine lv_bipush (v := 64) X.1 X.2.1 dX1_fromLatest_5 (by decide) ?_
    refine lv_icmp_ge (tgt := 18) X.1 X.2.1 dX1_fromLatest_7 (by decide) (fun c_7 => ?_) (fun c_7 => ?_)
    · refine lv_iconst (v := (-1)) X.1 X.2.1 dX1_fromLatest_18 (by decide) ?_
      exact hret _ _ _ _ _ _ Z (rcw_eq rfl rfl) ((if_neg c_1).trans (if_pos c_7)).symm dX1_fromLatest_19
    · refine lv_iload_n X.1 X.2.1 dX1_fromLatest_10 rfl (lv_at hl 1 rfl) ?_
      refine lv_aload_n X.1 X.2.1 dX1_fromLatest_11 rfl (lv_at hl 0 rfl) ?_
      refine G_X1_count X hT Z dX1_fromLatest_12 ?_
      refine lv_icmp_lt (tgt := 20) X.1 X.2.1 dX1_fromLatest_15 (by decide) (fun c_15 => ?_) (fun c_15 => ?_)
      · refine lv_aload_n X.1 X.2.1 dX1_fromLatest_20 rfl (lv_at hl 0 rfl) ?_
        refine G_X1_row X hT Z dX1_fromLatest_21 ?_
        refine lv_aload_n X.1 X.2.1 dX1_fromLatest_24 rfl (lv_at hl 0 rfl) ?_
        refine G_X1_count X hT Z dX1_fromLatest_25 ?_
        refine lv_iconst (v := 1) X.1 X.2.1 dX1_fromLatest_28 (by decide) ?_
        refine lv_isub X.1 X.2.1 dX1_fromLatest_29 ?_
        refine lv_iload_n X.1 X.2.1 dX1_fromLatest_30 rfl (lv_at hl 1 rfl) ?_
        refine lv_isub X.1 X.2.1 dX1_fromLatest_31 ?_
        refine lv_bipush (v := 63) X.1 X.2.1 dX1_fromLatest_32 (by decide) ?_
        refine lv_iand X.1 X.2.1 dX1_fromLatest_34 ?_
        refine L_X1_row (j := (((ct - 1) - a1) &&& 63).toNatClampNeg) X Z (vin63 _) rfl dX1_fromLatest_35 ?_
        exact hret _ _ _ _ _ _ Z (rcw_eq rfl rfl) ((if_neg c_1).trans ((if_neg c_7).trans (if_pos c_15))).symm dX1_fromLatest_36
      · refine lv_iconst (v := (-1)) X.1 X.2.1 dX1_fromLatest_18 (by decide) ?_
        exact hret _ _ _ _ _ _ Z (rcw_eq rfl rfl) ((if_neg c_1).trans ((if_neg c_7).trans (if_neg c_15))).symm dX1_fromLatest_19
