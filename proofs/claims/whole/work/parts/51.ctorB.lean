set_option maxRecDepth 20000 in
set_option maxHeartbeats 4000000 in
theorem c_X2_init (l : Launch) (D : va_G) (cI : ClassId) (a : Nat) : MN l D cI yX2_init (.code yX2_init cX2_init 1 none) ({ frames := 2, cells := 7, slots := 4633, locals := 32 } : Room) [.ref a] [(a, .inr (2, [.null, .null, .null, .null, .int 0, .int 0, .int 0, .int 0, .int 0, .int 0, .int 0, .int 0, .int 0, .int 0, .int 0]))] (fun w => ∃ q : Nat → Nat, q 0 = a ∧ w = cw q cI (fun _ => 0) (fun _ _ => 0)) 7 4633 := by
  refine MN.of (own := RX2) (by decide) rfl rfl (Nat.le_of_ble_eq_true rfl) ?_
  intro p e s m args below meth c A ls Q X hin Z hl hret
  have hT : ∀ w ∈ TB, w ∈ (Cond.code yX2_init cX2_init 1 none :: TB) := fun _ h => List.mem_cons_of_mem _ h
  have hl : lv_has ls 1 [(0, .ref a)] := hl
  refine lv_aload_n X.1 X.2.1 dX2_init_0 rfl (lv_at hl 0 rfl) ?_
  refine z_obj X hT kw_39 hl.1 dX2_init_1 (by decide) (Nat.le_of_ble_eq_true rfl) ?_
  refine lv_aload_n X.1 X.2.1 dX2_init_4 rfl (lv_at hl 0 rfl) ?_
  refine lv_sipush (v := 4096) X.1 X.2.1 dX2_init_5 (by decide) ?_
  refine z_newa (N := 4096) X hT Z (by decide) (by decide) (by decide) (by decide) (by decide) dX2_init_8 (fun k1 H Z => ?_)
  refine z_putF (ws' := [(a, .inr (2, [.ref k1, .null, .null, .null, .int 0, .int 0, .int 0, .int 0, .int 0, .int 0, .int 0, .int 0, .int 0, .int 0, .int 0])), (k1, .inl (cI, 4096, .inl (fun _ => 0)))]) X hT Z iX2 tyX2 tyX2_ok nmX2 0 rfl rfl 0 (by decide) kw_81 rfl rfl hin rfl (ty := .array .int) (by decide +kernel) rfl rfl (Nat.le_of_ble_eq_true rfl) rfl dX2_init_10 (fun H locs Z => ?_)
  refine lv_aload_n X.1 X.2.1 dX2_init_13 rfl (lv_at hl 0 rfl) ?_
  refine z_new (ci := 0) (fs := [.null, .int 0, .int 0, .int 0, .int 0]) X hT Z iX0 tyX0 tyX0_ok kw_42 kw_43 kw_31 rfl fs_X0 (by decide) (by decide) dX2_init_14 (fun k2 H Z => ?_)
  refine lv_dup X.1 X.2.1 dX2_init_17 rfl ?_
  refine call_IN (wc := [(k2, .inr (0, [.null, .int 0, .int 0, .int 0, .int 0]))]) (wr := [(a, .inr (2, [.ref k1, .null, .null, .null, .int 0, .int 0, .int 0, .int 0, .int 0, .int 0, .int 0, .int 0, .int 0, .int 0, .int 0])), (k1, .inl (cI, 4096, .inl (fun _ => 0)))]) X hT Z [2] [0, 1] rfl rfl rfl rfl (by decide) kw_44 kw_45 kw_31 kw_46 rfl (c_X0_init l D cI k2) hi_X0_init ⟨by decide, by decide⟩ ⟨rfl, rfl⟩ hl.1 (rest := [.ref k2, .ref a]) rfl (Nat.le_of_ble_eq_true rfl) ⟨by decide, by decide⟩ dX2_init_18 (fun w1 H locs hP Z => ?_)
  obtain ⟨k5, rfl⟩ := hP
  refine z_putF (ws' := [(a, .inr (2, [.ref k1, .ref k2, .null, .null, .int 0, .int 0, .int 0, .int 0, .int 0, .int 0, .int 0, .int 0, .int 0, .int 0, .int 0])), (k1, .inl (cI, 4096, .inl (fun _ => 0))), (k2, .inr (0, [.ref k5, .int 0, .int 0, .int 0, .int 0])), (k5, .inl (cI, 400, .inl (fun _ => 0)))]) X hT Z iX2 tyX2 tyX2_ok nmX2 0 rfl rfl 1 (by decide) kw_82 rfl rfl hin rfl (ty := .object "TapeMachine$Reader") (by decide +kernel) rfl rfl (Nat.le_of_ble_eq_true rfl) rfl dX2_init_21 (fun H locs Z => ?_)
  refine lv_aload_n X.1 X.2.1 dX2_init_24 rfl (lv_at hl 0 rfl) ?_
  refine z_new (ci := 1) (fs := [.null, .int 0]) X hT Z iX1 tyX1 tyX1_ok kw_67 kw_68 kw_32 rfl fs_X1 (by decide) (by decide) dX2_init_25 (fun k3 H Z => ?_)
  refine lv_dup X.1 X.2.1 dX2_init_28 rfl ?_
  refine call_IN (wc := [(k3, .inr (1, [.null, .int 0]))]) (wr := [(a, .inr (2, [.ref k1, .ref k2, .null, .null, .int 0, .int 0, .int 0, .int 0, .int 0, .int 0, .int 0, .int 0, .int 0, .int 0, .int 0])), (k1, .inl (cI, 4096, .inl (fun _ => 0))), (k2, .inr (0, [.ref k5, .int 0, .int 0, .int 0, .int 0])), (k5, .inl (cI, 400, .inl (fun _ => 0)))]) X hT Z [4] [0, 1, 2, 3] rfl rfl rfl rfl (by decide) kw_69 kw_70 kw_32 kw_71 rfl (c_X1_init l D cI k3) hi_X1_init ⟨by decide, by decide⟩ ⟨rfl, rfl⟩ hl.1 (rest := [.ref k3, .ref a]) rfl (Nat.le_of_ble_eq_true rfl) ⟨by decide, by decide⟩ dX2_init_29 (fun w1 H locs hP Z => ?_)
  obtain ⟨k6, rfl⟩ := hP
  refine z_putF (ws' := [(a, .inr (2, [.ref k1, .ref k2, .ref k3, .null, .int 0, .int 0, .int 0, .int 0, .int 0, .int 0, .int 0, .int 0, .int 0, .int 0, .int 0])), (k1, .inl (cI, 4096, .inl (fun _ => 0))), (k2, .inr (0, [.ref k5, .int 0, .int 0, .int 0, .int 0])), (k5, .inl (cI, 400, .inl (fun _ => 0))), (k3, .inr (1, [.ref k6, .int 0])), (k6, .inl (cI, 64, .inl (fun _ => 0)))]) X hT Z iX2 tyX2 tyX2_ok nmX2 0 rfl rfl 2 (by decide) kw_83 rfl rfl hin rfl (ty := .object "TapeMachine$Recent") (by decide +kernel) rfl rfl (Nat.le_of_ble_eq_true rfl) rfl dX2_init_32 (fun H locs Z => ?_)
  refine lv_aload_n X.1 X.2.1 dX2_init_35 rfl (lv_at hl 0 rfl) ?_
  refine z_new (ci := 1) (fs := [.null, .int 0]) X hT Z iX1 tyX1 tyX1_ok kw_67 kw_68 kw_32 rfl fs_X1 (by decide) (by decide) dX2_init_36 (fun k4 H Z => ?_)
  refine lv_dup X.1 X.2.1 dX2_init_39 rfl ?_
  refine call_IN (wc := [(k4, .inr (1, [.null, .int 0]))]) (wr := [(a, .inr (2, [.ref k1, .ref k2, .ref k3, .null, .int 0, .int 0, .int 0, .int 0, .int 0, .int 0, .int 0, .int 0, .int 0, .int 0, .int 0])), (k1, .inl (cI, 4096, .inl (fun _ => 0))), (k2, .inr (0, [.ref k5, .int 0, .int 0, .int 0, .int 0])), (k5, .inl (cI, 400, .inl (fun _ => 0))), (k3, .inr (1, [.ref k6, .int 0])), (k6, .inl (cI, 64, .inl (fun _ => 0)))]) X hT Z [6] [0, 1, 2, 3, 4, 5] rfl rfl rfl rfl (by decide) kw_69 kw_70 kw_32 kw_71 rfl (c_X1_init l D cI k4) hi_X1_init ⟨by decide, by decide⟩ ⟨rfl, rfl⟩ hl.1 (rest := [.ref k4, .ref a]) rfl (Nat.le_of_ble_eq_true rfl) ⟨by decide, by decide⟩ dX2_init_40 (fun w1 H locs hP Z => ?_)
  obtain ⟨k7, rfl⟩ := hP
  refine z_putF (ws' := [(a, .inr (2, [.ref k1, .ref k2, .ref k3, .ref k4, .int 0, .int 0, .int 0, .int 0, .int 0, .int 0, .int 0, .int 0, .int 0, .int 0, .int 0])), (k1, .inl (cI, 4096, .inl (fun _ => 0))), (k2, .inr (0, [.ref k5, .int 0, .int 0, .int 0, .int 0])), (k5, .inl (cI, 400, .inl (fun _ => 0))), (k3, .inr (1, [.ref k6, .int 0])), (k6, .inl (cI, 64, .inl (fun _ => 0))), (k4, .inr (1, [.ref k7, .int 0])), (k7, .inl (cI, 64, .inl (fun _ => 0)))]) X hT Z iX2 tyX2 tyX2_ok nmX2 0 rfl rfl 3 (by decide) kw_84 rfl rfl hin rfl (ty := .object "TapeMachine$Recent") (by decide +kernel) rfl rfl (Nat.le_of_ble_eq_true rfl) rfl dX2_init_43 (fun H locs Z => ?_)
  exact hret _ _ _ _ _ Z ⟨qf a k1 k2 k3 k4 k5 k6 k7, rfl, rfl⟩ dX2_init_46
set_option maxRecDepth 20000 in
set_option maxHeartbeats 4000000 in
theorem c_X3_init (l : Launch) (D : va_G) (cI : ClassId) (a : Nat) : MN l D cI yX3_init (.code yX3_init cX3_init 1 none) ({ frames := 1, cells := 5, slots := 4635, locals := 12 } : Room) [.ref a] [(a, .inr (3, [.null, .null, .null, .null, .null, .int 0, .int 0, .int 0, .int 0, .int 0, .int 0]))] (fun w => ∃ q : Nat → Nat, q 0 = a ∧ w = mw q cI (fun _ => 0) (fun _ _ => 0)) 5 4635 := by
  refine MN.of (own := RX3) (by decide) rfl rfl (Nat.le_of_ble_eq_true rfl) ?_
  intro p e s m args below meth c A ls Q X hin Z hl hret
  have hT : ∀ w ∈ TB, w ∈ (Cond.code yX3_init cX3_init 1 none :: TB) := fun _ h => List.mem_cons_of_mem _ h
  have hl : lv_has ls 1 [(0, .ref a)] := hl
  refine lv_aload_n X.1 X.2.1 dX3_init_0 rfl (lv_at hl 0 rfl) ?_
  refine z_obj X hT kw_268 hl.1 dX3_init_1 (by decide) (Nat.le_of_ble_eq_true rfl) ?_
  refine lv_aload_n X.1 X.2.1 dX3_init_4 rfl (lv_at hl 0 rfl) ?_
  refine lv_sipush (v := 4096) X.1 X.2.1 dX3_init_5 (by decide) ?_
  refine z_newa (N := 4096) X hT Z (by decide) (by decide) (by decide) (by decide) (by decide) dX3_init_8 (fun k1 H Z => ?_)
  refine z_putF (ws' := [(a, .inr (3, [.ref k1, .null, .null, .null, .null, .int 0, .int 0, .int 0, .int 0, .int 0, .int 0])), (k1, .inl (cI, 4096, .inl (fun _ => 0)))]) X hT Z iX3 tyX3 tyX3_ok nmX3 0 rfl rfl 0 (by decide) kw_269 rfl rfl hin rfl (ty := .array .int) (by decide +kernel) rfl rfl (Nat.le_of_ble_eq_true rfl) rfl dX3_init_10 (fun H locs Z => ?_)
  refine lv_aload_n X.1 X.2.1 dX3_init_13 rfl (lv_at hl 0 rfl) ?_
  refine lv_bipush (v := 11) X.1 X.2.1 dX3_init_14 (by decide) ?_
  refine z_newa (N := 11) X hT Z (by decide) (by decide) (by decide) (by decide) (by decide) dX3_init_16 (fun k2 H Z => ?_)
  refine z_putF (ws' := [(a, .inr (3, [.ref k1, .ref k2, .null, .null, .null, .int 0, .int 0, .int 0, .int 0, .int 0, .int 0])), (k1, .inl (cI, 4096, .inl (fun _ => 0))), (k2, .inl (cI, 11, .inl (fun _ => 0)))]) X hT Z iX3 tyX3 tyX3_ok nmX3 0 rfl rfl 1 (by decide) kw_270 rfl rfl hin rfl (ty := .array .int) (by decide +kernel) rfl rfl (Nat.le_of_ble_eq_true rfl) rfl dX3_init_18 (fun H locs Z => ?_)
  refine lv_aload_n X.1 X.2.1 dX3_init_21 rfl (lv_at hl 0 rfl) ?_
  refine lv_sipush (v := 400) X.1 X.2.1 dX3_init_22 (by decide) ?_
  refine z_newa (N := 400) X hT Z (by decide) (by decide) (by decide) (by decide) (by decide) dX3_init_25 (fun k3 H Z => ?_)
  refine z_putF (ws' := [(a, .inr (3, [.ref k1, .ref k2, .ref k3, .null, .null, .int 0, .int 0, .int 0, .int 0, .int 0, .int 0])), (k1, .inl (cI, 4096, .inl (fun _ => 0))), (k2, .inl (cI, 11, .inl (fun _ => 0))), (k3, .inl (cI, 400, .inl (fun _ => 0)))]) X hT Z iX3 tyX3 tyX3_ok nmX3 0 rfl rfl 2 (by decide) kw_271 rfl rfl hin rfl (ty := .array .int) (by decide +kernel) rfl rfl (Nat.le_of_ble_eq_true rfl) rfl dX3_init_27 (fun H locs Z => ?_)
  refine lv_aload_n X.1 X.2.1 dX3_init_30 rfl (lv_at hl 0 rfl) ?_
  refine lv_bipush (v := 64) X.1 X.2.1 dX3_init_31 (by decide) ?_
  refine z_newa (N := 64) X hT Z (by decide) (by decide) (by decide) (by decide) (by decide) dX3_init_33 (fun k4 H Z => ?_)
  refine z_putF (ws' := [(a, .inr (3, [.ref k1, .ref k2, .ref k3, .ref k4, .null, .int 0, .int 0, .int 0, .int 0, .int 0, .int 0])), (k1, .inl (cI, 4096, .inl (fun _ => 0))), (k2, .inl (cI, 11, .inl (fun _ => 0))), (k3, .inl (cI, 400, .inl (fun _ => 0))), (k4, .inl (cI, 64, .inl (fun _ => 0)))]) X hT Z iX3 tyX3 tyX3_ok nmX3 0 rfl rfl 3 (by decide) kw_272 rfl rfl hin rfl (ty := .array .int) (by decide +kernel) rfl rfl (Nat.le_of_ble_eq_true rfl) rfl dX3_init_35 (fun H locs Z => ?_)
  refine lv_aload_n X.1 X.2.1 dX3_init_38 rfl (lv_at hl 0 rfl) ?_
  refine lv_bipush (v := 64) X.1 X.2.1 dX3_init_39 (by decide) ?_
  refine z_newa (N := 64) X hT Z (by decide) (by decide) (by decide) (by decide) (by decide) dX3_init_41 (fun k5 H Z => ?_)
  refine z_putF (ws' := [(a, .inr (3, [.ref k1, .ref k2, .ref k3, .ref k4, .ref k5, .int 0, .int 0, .int 0, .int 0, .int 0, .int 0])), (k1, .inl (cI, 4096, .inl (fun _ => 0))), (k2, .inl (cI, 11, .inl (fun _ => 0))), (k3, .inl (cI, 400, .inl (fun _ => 0))), (k4, .inl (cI, 64, .inl (fun _ => 0))), (k5, .inl (cI, 64, .inl (fun _ => 0)))]) X hT Z iX3 tyX3 tyX3_ok nmX3 0 rfl rfl 4 (by decide) kw_273 rfl rfl hin rfl (ty := .array .int) (by decide +kernel) rfl rfl (Nat.le_of_ble_eq_true rfl) rfl dX3_init_43 (fun H locs Z => ?_)
  refine lv_aload_n X.1 X.2.1 dX3_init_46 rfl (lv_at hl 0 rfl) ?_
  refine lv_iconst (v := 0) X.1 X.2.1 dX3_init_47 (by decide) ?_
  refine P_X3_fed (q := qf a k1 k2 k3 k4 k5 0 0) (g := fun _ => 0) (mm := fun _ _ => 0) X hT Z dX3_init_48 (fun H locs Z => ?_)
  exact hret _ _ _ _ _ Z ⟨qf a k1 k2 k3 k4 k5 0 0, rfl, rfl⟩ dX3_init_51
