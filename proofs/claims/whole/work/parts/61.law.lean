theorem NW_of {args : Array Value} {s : State} (h : ∀ w ∈ lw_tbl, w.before args s = true) : NW s := by
  intro w hw
  have hn := (List.mem_filter.mp hw).2
  refine va_Nw.of ?_ (h w (List.mem_filter.mp hw).1)
  cases w <;> first | rfl | (exact absurd hn (by simp [isNest]))
theorem lw_gt {L j : Nat} (hL : L ≤ 1536) (hj : j ≤ 1539) : nI L - 3 < nI j ↔ L < j + 3 := by
  rw [Int32.lt_iff_toInt_lt, nI_toInt (by omega), show nI L - 3 = nI L - nI 3 from rfl, pk_sub_toInt (by omega) (by omega)]
  omega
theorem lw_ix {L j k : Nat} (hL : L ≤ 1536) (h : j + k < L) : vp_in (nI j + nI k) L := by
  rw [nI_add]
  exact vp_in_nI h (by omega)
theorem lw_15 (x : Int32) : ∃ k : Nat, k < 16 ∧ x &&& 15 = nI k := pk_andE x (m := 15) 4 (by decide)
set_option maxRecDepth 20000 in
set_option maxHeartbeats 8000000 in
theorem law_loop {p : Program} {l : Launch} {e : Env} {s : State} {m : MethodId} {below : List Frame} {meth : Method} {c : Code} {b L : Nat} {xs : Nat → Int32} (D : va_G) (cI : ClassId) (qc qm : Nat → Nat) (X : CallFix p m c cL_law 4 s #[Value.ref b] lw_tbl RL) (hr : meth.sig.returnType = ret) (hlocks : meth.locks = false) (hL : L ≤ 1536) (hX : va_X b L xs s s.heap) (hbl : b < s.heap.size) :
    ∀ (d j : Nat) (g f : Nat → Int32) (mm n : Nat → Nat → Int32), RR g mm f n → L + 1 ≤ j + d → j ≤ 1539 → ∀ (ls : Array Slot) (H : Heap) (locs : List Loc), lv_has ls 4 [(3, .int (nI j)), (2, .ref (qm 0)), (1, .ref (qc 0)), (0, .ref b)] → ZZ D cI (cw qc cI g mm ++ mw qm cI f n) (fun q => s.heap.size ≤ q) s H locs →
    W p l e room_1 s m #[Value.ref b] below meth c H locs 14 9294 (lw_Z below #[Value.ref b] s) (F0 m 18 ls []) := by
  have hT : ∀ w ∈ TB, w ∈ lw_tbl := fun _ h => tb_in h
  have hbA : ¬ (fun q : Nat => s.heap.size ≤ q) b := Nat.not_le.mpr hbl
  intro d
  induction d with
  | zero =>
    intro j g f mm n h hd hj ls H locs hl Z
    refine lv_iload_n X.1 X.2.1 dL_law_18 rfl (lv_at hl 0 rfl) ?_
    refine lv_aload_n X.1 X.2.1 dL_law_19 rfl (lv_at hl 3 rfl) ?_
    refine va_slen X.1 X.2.1 hX hbl hbA Z.2.2.1 dL_law_20 ?_
    refine lv_iconst (v := 3) X.1 X.2.1 dL_law_21 (by decide) ?_
    refine lv_isub X.1 X.2.1 dL_law_22 ?_
    refine lv_icmp_gt (tgt := 358) X.1 X.2.1 dL_law_23 (by decide) (fun _ => ?_) (fun c_1 => absurd ((lw_gt hL hj).mpr (by omega)) c_1)
    refine lv_iconst (v := 1) X.1 X.2.1 dL_law_358 (by decide) ?_
    refine va_forget Z.2.2.1.2.2 ?_
    exact lw_ret X.1 X.2.1 hr hlocks dL_law_359
  | succ d ih =>
    intro j g f mm n h hd hj ls H locs hl Z
    refine lv_iload_n X.1 X.2.1 dL_law_18 rfl (lv_at hl 0 rfl) ?_
    refine lv_aload_n X.1 X.2.1 dL_law_19 rfl (lv_at hl 3 rfl) ?_
    refine va_slen X.1 X.2.1 hX hbl hbA Z.2.2.1 dL_law_20 ?_
    refine lv_iconst (v := 3) X.1 X.2.1 dL_law_21 (by decide) ?_
    refine lv_isub X.1 X.2.1 dL_law_22 ?_
    refine lv_icmp_gt (tgt := 358) X.1 X.2.1 dL_law_23 (by decide) (fun _ => ?_) (fun c_1 => ?_)
    · refine lv_iconst (v := 1) X.1 X.2.1 dL_law_358 (by decide) ?_
      refine va_forget Z.2.2.1.2.2 ?_
      exact lw_ret X.1 X.2.1 hr hlocks dL_law_359
    have hj3 : j + 3 ≤ L := by
      rcases Nat.lt_or_ge L (j + 3) with q | q
      · exact absurd ((lw_gt hL hj).mpr q) c_1
      · exact q
    have i0 : vp_in (nI j) L := vp_in_nI (by omega) (by omega)
    have i1 : vp_in (nI j + 1) L := lw_ix (k := 1) hL (by omega)
    have i2 : vp_in (nI j + 2) L := lw_ix (k := 2) hL (by omega)
    have K : ∀ (g f : Nat → Int32) (mm n : Nat → Nat → Int32), RR g mm f n → ∀ (H : Heap) (locs : List Loc), ZZ D cI (cw qc cI g mm ++ mw qm cI f n) (fun q => s.heap.size ≤ q) s H locs → W p l e room_1 s m #[Value.ref b] below meth c H locs 14 9294 (lw_Z below #[Value.ref b] s) (F0 m 352 ls []) := by
      intro g f mm n h H locs Z
      refine lv_iinc (v := nI (j + 3)) (lv' := [(3, .int (nI (j + 3))), (2, .ref (qm 0)), (1, .ref (qc 0)), (0, .ref b)]) X.1 X.2.1 dL_law_352 hl (k := 0) rfl (nI_add j 3) (by decide) rfl (fun ls hl => ?_)
      refine lv_goto (tgt := 18) X.1 X.2.1 dL_law_355 (by decide) ?_
      exact ih (j + 3) g f mm n h (by omega) (by omega) ls H locs hl Z
    refine lv_aload_n X.1 X.2.1 dL_law_26 rfl (lv_at hl 3 rfl) ?_
    refine lv_iload_n X.1 X.2.1 dL_law_27 rfl (lv_at hl 0 rfl) ?_
    refine va_sld X.1 X.2.1 hX hbl hbA Z.2.2.1 i0 dL_law_28 ?_
    refine lv_bipush (v := 15) X.1 X.2.1 dL_law_29 (by decide) ?_
    refine lv_iand X.1 X.2.1 dL_law_31 ?_
    obtain ⟨k, hk, ek⟩ := lw_15 (xs (nI j).toNatClampNeg)
    rw [ek]
    have hk16 : k = 0 ∨ k = 1 ∨ k = 2 ∨ k = 3 ∨ k = 4 ∨ k = 5 ∨ k = 6 ∨ k = 7 ∨ k = 8 ∨ k = 9 ∨ k = 10 ∨ k = 11 ∨ 12 ≤ k := by omega
    rcases hk16 with rfl | rfl | rfl | rfl | rfl | rfl | rfl | rfl | rfl | rfl | rfl | rfl | hk12
    · refine lv_tableIn (tgt := 96) (off := 64) X.1 X.2.1 dL_law_32 (by decide) (by decide) (by decide) (by decide) ?_
      refine lv_aload_n X.1 X.2.1 dL_law_96 rfl (lv_at hl 2 rfl) ?_
      refine lv_aload_n X.1 X.2.1 dL_law_97 rfl (lv_at hl 3 rfl) ?_
      refine lv_iload_n X.1 X.2.1 dL_law_98 rfl (lv_at hl 0 rfl) ?_
      refine lv_iconst (v := 1) X.1 X.2.1 dL_law_99 (by decide) ?_
      refine lv_iadd X.1 X.2.1 dL_law_100 ?_
      refine va_sld X.1 X.2.1 hX hbl hbA Z.2.2.1 i1 dL_law_101 ?_
      refine call_VPi X hT Z (wc := cw qc cI g mm) (wr := mw qm cI f n) [0, 1, 2, 3, 4, 5, 6, 7] [8, 9, 10, 11, 12, 13] rfl rfl rfl rfl (by decide) (qq := (RX2, TX2, 15)) k_L_13 (c_X2_feed l D cI qc g mm (xs (nI j + 1).toNatClampNeg) (sim_feed h (xs (nI j + 1).toNatClampNeg)).2.2.1) rfl rfl hd_X2_feed ⟨by decide, by decide⟩ ⟨rfl, rfl⟩ hl.1 (rest := []) rfl (Nat.le_of_ble_eq_true rfl) ⟨by decide, by decide⟩ dL_law_102 (fun H locs Z => ?_)
      refine lv_aload_n X.1 X.2.1 dL_law_105 rfl (lv_at hl 1 rfl) ?_
      refine lv_aload_n X.1 X.2.1 dL_law_106 rfl (lv_at hl 3 rfl) ?_
      refine lv_iload_n X.1 X.2.1 dL_law_107 rfl (lv_at hl 0 rfl) ?_
      refine lv_iconst (v := 1) X.1 X.2.1 dL_law_108 (by decide) ?_
      refine lv_iadd X.1 X.2.1 dL_law_109 ?_
      refine va_sld X.1 X.2.1 hX hbl hbA Z.2.2.1 i1 dL_law_110 ?_
      refine call_VPi X hT Z (wc := mw qm cI f n) (wr := cw qc cI (gX2_feed g mm (xs (nI j + 1).toNatClampNeg)) (mX2_feed g mm (xs (nI j + 1).toNatClampNeg))) [0, 1, 2, 3, 4, 5] [6, 7, 8, 9, 10, 11, 12, 13] rfl rfl rfl rfl (by decide) (qq := (RX3, TX3, 11)) k_L_17 (c_X3_feed l D cI qm f n (xs (nI j + 1).toNatClampNeg) (sim_feed h (xs (nI j + 1).toNatClampNeg)).2.2.2) rfl rfl hd_X3_feed ⟨by decide, by decide⟩ ⟨rfl, rfl⟩ hl.1 (rest := [.int (rX2_feed g mm (xs (nI j + 1).toNatClampNeg))]) rfl (Nat.le_of_ble_eq_true rfl) ⟨by decide, by decide⟩ dL_law_111 (fun H locs Z => ?_)
      refine lv_icmp_eq (tgt := 352) X.1 X.2.1 dL_law_114 (by decide) (fun _ => ?_) (fun c_2 => absurd ((sim_feed h (xs (nI j + 1).toNatClampNeg)).1) c_2)
      exact K (gX2_feed g mm (xs (nI j + 1).toNatClampNeg)) (gX3_feed f n (xs (nI j + 1).toNatClampNeg)) (mX2_feed g mm (xs (nI j + 1).toNatClampNeg)) (mX3_feed f n (xs (nI j + 1).toNatClampNeg)) ((sim_feed h (xs (nI j + 1).toNatClampNeg)).2.1) H locs Z
    · refine lv_tableIn (tgt := 119) (off := 87) X.1 X.2.1 dL_law_32 (by decide) (by decide) (by decide) (by decide) ?_
      refine lv_aload_n X.1 X.2.1 dL_law_119 rfl (lv_at hl 2 rfl) ?_
      refine call_VPi X hT Z (wc := cw qc cI g mm) (wr := mw qm cI f n) [0, 1, 2, 3, 4, 5, 6, 7] [8, 9, 10, 11, 12, 13] rfl rfl rfl rfl (by decide) (qq := (RX2, TX2, 15)) k_L_18 (c_X2_waiting l D cI qc g mm ) rfl rfl hd_X2_waiting ⟨by decide, by decide⟩ ⟨rfl, rfl⟩ hl.1 (rest := []) rfl (Nat.le_of_ble_eq_true rfl) ⟨by decide, by decide⟩ dL_law_120 (fun H locs Z => ?_)
      refine lv_aload_n X.1 X.2.1 dL_law_123 rfl (lv_at hl 1 rfl) ?_
      refine call_VPi X hT Z (wc := mw qm cI f n) (wr := cw qc cI g mm) [0, 1, 2, 3, 4, 5] [6, 7, 8, 9, 10, 11, 12, 13] rfl rfl rfl rfl (by decide) (qq := (RX3, TX3, 11)) k_L_22 (c_X3_waiting l D cI qm f n ) rfl rfl hd_X3_waiting ⟨by decide, by decide⟩ ⟨rfl, rfl⟩ hl.1 (rest := [.int (rX2_waiting g mm)]) rfl (Nat.le_of_ble_eq_true rfl) ⟨by decide, by decide⟩ dL_law_124 (fun H locs Z => ?_)
      refine lv_icmp_eq (tgt := 352) X.1 X.2.1 dL_law_127 (by decide) (fun _ => ?_) (fun c_2 => absurd (sim_waiting h) c_2)
      exact K g f mm n (h) H locs Z
    · refine lv_tableIn (tgt := 132) (off := 100) X.1 X.2.1 dL_law_32 (by decide) (by decide) (by decide) (by decide) ?_
      refine lv_aload_n X.1 X.2.1 dL_law_132 rfl (lv_at hl 2 rfl) ?_
      refine lv_aload_n X.1 X.2.1 dL_law_133 rfl (lv_at hl 3 rfl) ?_
      refine lv_iload_n X.1 X.2.1 dL_law_134 rfl (lv_at hl 0 rfl) ?_
      refine lv_iconst (v := 1) X.1 X.2.1 dL_law_135 (by decide) ?_
      refine lv_iadd X.1 X.2.1 dL_law_136 ?_
      refine va_sld X.1 X.2.1 hX hbl hbA Z.2.2.1 i1 dL_law_137 ?_
      refine lv_aload_n X.1 X.2.1 dL_law_138 rfl (lv_at hl 3 rfl) ?_
      refine lv_iload_n X.1 X.2.1 dL_law_139 rfl (lv_at hl 0 rfl) ?_
      refine lv_iconst (v := 2) X.1 X.2.1 dL_law_140 (by decide) ?_
      refine lv_iadd X.1 X.2.1 dL_law_141 ?_
      refine va_sld X.1 X.2.1 hX hbl hbA Z.2.2.1 i2 dL_law_142 ?_
      refine call_VPi X hT Z (wc := cw qc cI g mm) (wr := mw qm cI f n) [0, 1, 2, 3, 4, 5, 6, 7] [8, 9, 10, 11, 12, 13] rfl rfl rfl rfl (by decide) (qq := (RX2, TX2, 15)) k_L_23 (c_X2_poke l D cI qc g mm (xs (nI j + 1).toNatClampNeg) (xs (nI j + 2).toNatClampNeg) ) rfl rfl hd_X2_poke ⟨by decide, by decide⟩ ⟨rfl, rfl⟩ hl.1 (rest := []) rfl (Nat.le_of_ble_eq_true rfl) ⟨by decide, by decide⟩ dL_law_143 (fun H locs Z => ?_)
      refine lv_aload_n X.1 X.2.1 dL_law_146 rfl (lv_at hl 1 rfl) ?_
      refine lv_aload_n X.1 X.2.1 dL_law_147 rfl (lv_at hl 3 rfl) ?_
      refine lv_iload_n X.1 X.2.1 dL_law_148 rfl (lv_at hl 0 rfl) ?_
      refine lv_iconst (v := 1) X.1 X.2.1 dL_law_149 (by decide) ?_
      refine lv_iadd X.1 X.2.1 dL_law_150 ?_
      refine va_sld X.1 X.2.1 hX hbl hbA Z.2.2.1 i1 dL_law_151 ?_
      refine lv_aload_n X.1 X.2.1 dL_law_152 rfl (lv_at hl 3 rfl) ?_
      refine lv_iload_n X.1 X.2.1 dL_law_153 rfl (lv_at hl 0 rfl) ?_
      refine lv_iconst (v := 2) X.1 X.2.1 dL_law_154 (by decide) ?_
      refine lv_iadd X.1 X.2.1 dL_law_155 ?_
      refine va_sld X.1 X.2.1 hX hbl hbA Z.2.2.1 i2 dL_law_156 ?_
      refine call_VPi X hT Z (wc := mw qm cI f n) (wr := cw qc cI g (mX2_poke g mm (xs (nI j + 1).toNatClampNeg) (xs (nI j + 2).toNatClampNeg))) [0, 1, 2, 3, 4, 5] [6, 7, 8, 9, 10, 11, 12, 13] rfl rfl rfl rfl (by decide) (qq := (RX3, TX3, 11)) k_L_27 (c_X3_poke l D cI qm f n (xs (nI j + 1).toNatClampNeg) (xs (nI j + 2).toNatClampNeg) ) rfl rfl hd_X3_poke ⟨by decide, by decide⟩ ⟨rfl, rfl⟩ hl.1 (rest := [.int (rX2_poke g mm (xs (nI j + 1).toNatClampNeg) (xs (nI j + 2).toNatClampNeg))]) rfl (Nat.le_of_ble_eq_true rfl) ⟨by decide, by decide⟩ dL_law_157 (fun H locs Z => ?_)
      refine lv_icmp_eq (tgt := 352) X.1 X.2.1 dL_law_160 (by decide) (fun _ => ?_) (fun c_2 => absurd ((sim_poke h (xs (nI j + 1).toNatClampNeg) (xs (nI j + 2).toNatClampNeg)).1) c_2)
      exact K g f (mX2_poke g mm (xs (nI j + 1).toNatClampNeg) (xs (nI j + 2).toNatClampNeg)) (mX3_poke f n (xs (nI j + 1).toNatClampNeg) (xs (nI j + 2).toNatClampNeg)) ((sim_poke h (xs (nI j + 1).toNatClampNeg) (xs (nI j + 2).toNatClampNeg)).2) H locs Z
    · refine lv_tableIn (tgt := 165) (off := 133) X.1 X.2.1 dL_law_32 (by decide) (by decide) (by decide) (by decide) ?_
      refine lv_aload_n X.1 X.2.1 dL_law_165 rfl (lv_at hl 2 rfl) ?_
      refine lv_aload_n X.1 X.2.1 dL_law_166 rfl (lv_at hl 3 rfl) ?_
      refine lv_iload_n X.1 X.2.1 dL_law_167 rfl (lv_at hl 0 rfl) ?_
      refine lv_iconst (v := 1) X.1 X.2.1 dL_law_168 (by decide) ?_
      refine lv_iadd X.1 X.2.1 dL_law_169 ?_
      refine va_sld X.1 X.2.1 hX hbl hbA Z.2.2.1 i1 dL_law_170 ?_
      refine call_VPi X hT Z (wc := cw qc cI g mm) (wr := mw qm cI f n) [0, 1, 2, 3, 4, 5, 6, 7] [8, 9, 10, 11, 12, 13] rfl rfl rfl rfl (by decide) (qq := (RX2, TX2, 15)) k_L_28 (c_X2_peek l D cI qc g mm (xs (nI j + 1).toNatClampNeg) ) rfl rfl hd_X2_peek ⟨by decide, by decide⟩ ⟨rfl, rfl⟩ hl.1 (rest := []) rfl (Nat.le_of_ble_eq_true rfl) ⟨by decide, by decide⟩ dL_law_171 (fun H locs Z => ?_)
      refine lv_aload_n X.1 X.2.1 dL_law_174 rfl (lv_at hl 1 rfl) ?_
      refine lv_aload_n X.1 X.2.1 dL_law_175 rfl (lv_at hl 3 rfl) ?_
      refine lv_iload_n X.1 X.2.1 dL_law_176 rfl (lv_at hl 0 rfl) ?_
      refine lv_iconst (v := 1) X.1 X.2.1 dL_law_177 (by decide) ?_
      refine lv_iadd X.1 X.2.1 dL_law_178 ?_
      refine va_sld X.1 X.2.1 hX hbl hbA Z.2.2.1 i1 dL_law_179 ?_
      refine call_VPi X hT Z (wc := mw qm cI f n) (wr := cw qc cI g mm) [0, 1, 2, 3, 4, 5] [6, 7, 8, 9, 10, 11, 12, 13] rfl rfl rfl rfl (by decide) (qq := (RX3, TX3, 11)) k_L_32 (c_X3_peek l D cI qm f n (xs (nI j + 1).toNatClampNeg) ) rfl rfl hd_X3_peek ⟨by decide, by decide⟩ ⟨rfl, rfl⟩ hl.1 (rest := [.int (rX2_peek g mm (xs (nI j + 1).toNatClampNeg))]) rfl (Nat.le_of_ble_eq_true rfl) ⟨by decide, by decide⟩ dL_law_180 (fun H locs Z => ?_)
      refine lv_icmp_eq (tgt := 352) X.1 X.2.1 dL_law_183 (by decide) (fun _ => ?_) (fun c_2 => absurd (sim_peek h (xs (nI j + 1).toNatClampNeg)) c_2)
      exact K g f mm n (h) H locs Z
    · refine lv_tableIn (tgt := 188) (off := 156) X.1 X.2.1 dL_law_32 (by decide) (by decide) (by decide) (by decide) ?_
      refine lv_aload_n X.1 X.2.1 dL_law_188 rfl (lv_at hl 2 rfl) ?_
      refine lv_aload_n X.1 X.2.1 dL_law_189 rfl (lv_at hl 3 rfl) ?_
      refine lv_iload_n X.1 X.2.1 dL_law_190 rfl (lv_at hl 0 rfl) ?_
      refine lv_iconst (v := 1) X.1 X.2.1 dL_law_191 (by decide) ?_
      refine lv_iadd X.1 X.2.1 dL_law_192 ?_
      refine va_sld X.1 X.2.1 hX hbl hbA Z.2.2.1 i1 dL_law_193 ?_
      refine lv_aload_n X.1 X.2.1 dL_law_194 rfl (lv_at hl 3 rfl) ?_
      refine lv_iload_n X.1 X.2.1 dL_law_195 rfl (lv_at hl 0 rfl) ?_
      refine lv_iconst (v := 2) X.1 X.2.1 dL_law_196 (by decide) ?_
      refine lv_iadd X.1 X.2.1 dL_law_197 ?_
      refine va_sld X.1 X.2.1 hX hbl hbA Z.2.2.1 i2 dL_law_198 ?_
      refine call_VPi X hT Z (wc := cw qc cI g mm) (wr := mw qm cI f n) [0, 1, 2, 3, 4, 5, 6, 7] [8, 9, 10, 11, 12, 13] rfl rfl rfl rfl (by decide) (qq := (RX2, TX2, 15)) k_L_33 (c_X2_set l D cI qc g mm (xs (nI j + 1).toNatClampNeg) (xs (nI j + 2).toNatClampNeg) ) rfl rfl hd_X2_set ⟨by decide, by decide⟩ ⟨rfl, rfl⟩ hl.1 (rest := []) rfl (Nat.le_of_ble_eq_true rfl) ⟨by decide, by decide⟩ dL_law_199 (fun H locs Z => ?_)
      refine lv_aload_n X.1 X.2.1 dL_law_202 rfl (lv_at hl 1 rfl) ?_
      refine lv_aload_n X.1 X.2.1 dL_law_203 rfl (lv_at hl 3 rfl) ?_
      refine lv_iload_n X.1 X.2.1 dL_law_204 rfl (lv_at hl 0 rfl) ?_
      refine lv_iconst (v := 1) X.1 X.2.1 dL_law_205 (by decide) ?_
      refine lv_iadd X.1 X.2.1 dL_law_206 ?_
      refine va_sld X.1 X.2.1 hX hbl hbA Z.2.2.1 i1 dL_law_207 ?_
      refine lv_aload_n X.1 X.2.1 dL_law_208 rfl (lv_at hl 3 rfl) ?_
      refine lv_iload_n X.1 X.2.1 dL_law_209 rfl (lv_at hl 0 rfl) ?_
      refine lv_iconst (v := 2) X.1 X.2.1 dL_law_210 (by decide) ?_
      refine lv_iadd X.1 X.2.1 dL_law_211 ?_
      refine va_sld X.1 X.2.1 hX hbl hbA Z.2.2.1 i2 dL_law_212 ?_
      refine call_VPi X hT Z (wc := mw qm cI f n) (wr := cw qc cI (gX2_set g mm (xs (nI j + 1).toNatClampNeg) (xs (nI j + 2).toNatClampNeg)) mm) [0, 1, 2, 3, 4, 5] [6, 7, 8, 9, 10, 11, 12, 13] rfl rfl rfl rfl (by decide) (qq := (RX3, TX3, 11)) k_L_37 (c_X3_set l D cI qm f n (xs (nI j + 1).toNatClampNeg) (xs (nI j + 2).toNatClampNeg) ) rfl rfl hd_X3_set ⟨by decide, by decide⟩ ⟨rfl, rfl⟩ hl.1 (rest := [.int (rX2_set g mm (xs (nI j + 1).toNatClampNeg) (xs (nI j + 2).toNatClampNeg))]) rfl (Nat.le_of_ble_eq_true rfl) ⟨by decide, by decide⟩ dL_law_213 (fun H locs Z => ?_)
      refine lv_icmp_eq (tgt := 352) X.1 X.2.1 dL_law_216 (by decide) (fun _ => ?_) (fun c_2 => absurd ((sim_set h (xs (nI j + 1).toNatClampNeg) (xs (nI j + 2).toNatClampNeg)).1) c_2)
      exact K (gX2_set g mm (xs (nI j + 1).toNatClampNeg) (xs (nI j + 2).toNatClampNeg)) f mm (mX3_set f n (xs (nI j + 1).toNatClampNeg) (xs (nI j + 2).toNatClampNeg)) ((sim_set h (xs (nI j + 1).toNatClampNeg) (xs (nI j + 2).toNatClampNeg)).2) H locs Z
    · refine lv_tableIn (tgt := 221) (off := 189) X.1 X.2.1 dL_law_32 (by decide) (by decide) (by decide) (by decide) ?_
      refine lv_aload_n X.1 X.2.1 dL_law_221 rfl (lv_at hl 2 rfl) ?_
      refine lv_aload_n X.1 X.2.1 dL_law_222 rfl (lv_at hl 3 rfl) ?_
      refine lv_iload_n X.1 X.2.1 dL_law_223 rfl (lv_at hl 0 rfl) ?_
      refine lv_iconst (v := 1) X.1 X.2.1 dL_law_224 (by decide) ?_
      refine lv_iadd X.1 X.2.1 dL_law_225 ?_
      refine va_sld X.1 X.2.1 hX hbl hbA Z.2.2.1 i1 dL_law_226 ?_
      refine call_VPi X hT Z (wc := cw qc cI g mm) (wr := mw qm cI f n) [0, 1, 2, 3, 4, 5, 6, 7] [8, 9, 10, 11, 12, 13] rfl rfl rfl rfl (by decide) (qq := (RX2, TX2, 15)) k_L_38 (c_X2_register l D cI qc g mm (xs (nI j + 1).toNatClampNeg) ) rfl rfl hd_X2_register ⟨by decide, by decide⟩ ⟨rfl, rfl⟩ hl.1 (rest := []) rfl (Nat.le_of_ble_eq_true rfl) ⟨by decide, by decide⟩ dL_law_227 (fun H locs Z => ?_)
      refine lv_aload_n X.1 X.2.1 dL_law_230 rfl (lv_at hl 1 rfl) ?_
      refine lv_aload_n X.1 X.2.1 dL_law_231 rfl (lv_at hl 3 rfl) ?_
      refine lv_iload_n X.1 X.2.1 dL_law_232 rfl (lv_at hl 0 rfl) ?_
      refine lv_iconst (v := 1) X.1 X.2.1 dL_law_233 (by decide) ?_
      refine lv_iadd X.1 X.2.1 dL_law_234 ?_
      refine va_sld X.1 X.2.1 hX hbl hbA Z.2.2.1 i1 dL_law_235 ?_
      refine call_VPi X hT Z (wc := mw qm cI f n) (wr := cw qc cI g mm) [0, 1, 2, 3, 4, 5] [6, 7, 8, 9, 10, 11, 12, 13] rfl rfl rfl rfl (by decide) (qq := (RX3, TX3, 11)) k_L_41 (c_X3_register l D cI qm f n (xs (nI j + 1).toNatClampNeg) ) rfl rfl hd_X3_register ⟨by decide, by decide⟩ ⟨rfl, rfl⟩ hl.1 (rest := [.int (rX2_register g mm (xs (nI j + 1).toNatClampNeg))]) rfl (Nat.le_of_ble_eq_true rfl) ⟨by decide, by decide⟩ dL_law_236 (fun H locs Z => ?_)
      refine lv_icmp_eq (tgt := 352) X.1 X.2.1 dL_law_239 (by decide) (fun _ => ?_) (fun c_2 => absurd (sim_register h (xs (nI j + 1).toNatClampNeg)) c_2)
      exact K g f mm n (h) H locs Z
    · refine lv_tableIn (tgt := 244) (off := 212) X.1 X.2.1 dL_law_32 (by decide) (by decide) (by decide) (by decide) ?_
      refine lv_aload_n X.1 X.2.1 dL_law_244 rfl (lv_at hl 2 rfl) ?_
      refine call_VPi X hT Z (wc := cw qc cI g mm) (wr := mw qm cI f n) [0, 1, 2, 3, 4, 5, 6, 7] [8, 9, 10, 11, 12, 13] rfl rfl rfl rfl (by decide) (qq := (RX2, TX2, 15)) k_L_42 (c_X2_go l D cI qc g mm (sim_go h).2.2) rfl rfl hd_X2_go ⟨by decide, by decide⟩ ⟨rfl, rfl⟩ hl.1 (rest := []) rfl (Nat.le_of_ble_eq_true rfl) ⟨by decide, by decide⟩ dL_law_245 (fun H locs Z => ?_)
      refine lv_aload_n X.1 X.2.1 dL_law_248 rfl (lv_at hl 1 rfl) ?_
      refine call_VPi X hT Z (wc := mw qm cI f n) (wr := cw qc cI (gX2_go g mm) mm) [0, 1, 2, 3, 4, 5] [6, 7, 8, 9, 10, 11, 12, 13] rfl rfl rfl rfl (by decide) (qq := (RX3, TX3, 11)) k_L_46 (c_X3_go l D cI qm f n ) rfl rfl hd_X3_go ⟨by decide, by decide⟩ ⟨rfl, rfl⟩ hl.1 (rest := [.int (rX2_go g mm)]) rfl (Nat.le_of_ble_eq_true rfl) ⟨by decide, by decide⟩ dL_law_249 (fun H locs Z => ?_)
      refine lv_icmp_eq (tgt := 352) X.1 X.2.1 dL_law_252 (by decide) (fun _ => ?_) (fun c_2 => absurd ((sim_go h).1) c_2)
      exact K (gX2_go g mm) f mm (mX3_go f n) ((sim_go h).2.1) H locs Z
    · refine lv_tableIn (tgt := 257) (off := 225) X.1 X.2.1 dL_law_32 (by decide) (by decide) (by decide) (by decide) ?_
      refine lv_aload_n X.1 X.2.1 dL_law_257 rfl (lv_at hl 2 rfl) ?_
      refine lv_aload_n X.1 X.2.1 dL_law_258 rfl (lv_at hl 3 rfl) ?_
      refine lv_iload_n X.1 X.2.1 dL_law_259 rfl (lv_at hl 0 rfl) ?_
      refine lv_iconst (v := 1) X.1 X.2.1 dL_law_260 (by decide) ?_
      refine lv_iadd X.1 X.2.1 dL_law_261 ?_
      refine va_sld X.1 X.2.1 hX hbl hbA Z.2.2.1 i1 dL_law_262 ?_
      refine call_VPi X hT Z (wc := cw qc cI g mm) (wr := mw qm cI f n) [0, 1, 2, 3, 4, 5, 6, 7] [8, 9, 10, 11, 12, 13] rfl rfl rfl rfl (by decide) (qq := (RX2, TX2, 15)) k_L_47 (c_X2_run l D cI qc g mm (xs (nI j + 1).toNatClampNeg) (fun d => (sim_ok d _ _ _ _ h).1)) rfl rfl hd_X2_run ⟨by decide, by decide⟩ ⟨rfl, rfl⟩ hl.1 (rest := []) rfl (Nat.le_of_ble_eq_true rfl) ⟨by decide, by decide⟩ dL_law_263 (fun H locs Z => ?_)
      refine lv_aload_n X.1 X.2.1 dL_law_266 rfl (lv_at hl 1 rfl) ?_
      refine lv_aload_n X.1 X.2.1 dL_law_267 rfl (lv_at hl 3 rfl) ?_
      refine lv_iload_n X.1 X.2.1 dL_law_268 rfl (lv_at hl 0 rfl) ?_
      refine lv_iconst (v := 1) X.1 X.2.1 dL_law_269 (by decide) ?_
      refine lv_iadd X.1 X.2.1 dL_law_270 ?_
      refine va_sld X.1 X.2.1 hX hbl hbA Z.2.2.1 i1 dL_law_271 ?_
      refine call_VPi X hT Z (wc := mw qm cI f n) (wr := cw qc cI (gX2_run g mm (xs (nI j + 1).toNatClampNeg)) (mX2_run g mm (xs (nI j + 1).toNatClampNeg))) [0, 1, 2, 3, 4, 5] [6, 7, 8, 9, 10, 11, 12, 13] rfl rfl rfl rfl (by decide) (qq := (RX3, TX3, 11)) k_L_50 (c_X3_run l D cI qm f n (xs (nI j + 1).toNatClampNeg) (fun d => (sim_ok d _ _ _ _ h).2)) rfl rfl hd_X3_run ⟨by decide, by decide⟩ ⟨rfl, rfl⟩ hl.1 (rest := [.int (rX2_run g mm (xs (nI j + 1).toNatClampNeg))]) rfl (Nat.le_of_ble_eq_true rfl) ⟨by decide, by decide⟩ dL_law_272 (fun H locs Z => ?_)
      refine lv_icmp_eq (tgt := 352) X.1 X.2.1 dL_law_275 (by decide) (fun _ => ?_) (fun c_2 => absurd ((sim_run h (xs (nI j + 1).toNatClampNeg)).1) c_2)
      exact K (gX2_run g mm (xs (nI j + 1).toNatClampNeg)) (gX3_run f n (xs (nI j + 1).toNatClampNeg)) (mX2_run g mm (xs (nI j + 1).toNatClampNeg)) (mX3_run f n (xs (nI j + 1).toNatClampNeg)) ((sim_run h (xs (nI j + 1).toNatClampNeg)).2) H locs Z
    · refine lv_tableIn (tgt := 280) (off := 248) X.1 X.2.1 dL_law_32 (by decide) (by decide) (by decide) (by decide) ?_
      refine lv_aload_n X.1 X.2.1 dL_law_280 rfl (lv_at hl 2 rfl) ?_
      refine lv_aload_n X.1 X.2.1 dL_law_281 rfl (lv_at hl 3 rfl) ?_
      refine lv_iload_n X.1 X.2.1 dL_law_282 rfl (lv_at hl 0 rfl) ?_
      refine lv_iconst (v := 1) X.1 X.2.1 dL_law_283 (by decide) ?_
      refine lv_iadd X.1 X.2.1 dL_law_284 ?_
      refine va_sld X.1 X.2.1 hX hbl hbA Z.2.2.1 i1 dL_law_285 ?_
      refine call_VPi X hT Z (wc := cw qc cI g mm) (wr := mw qm cI f n) [0, 1, 2, 3, 4, 5, 6, 7] [8, 9, 10, 11, 12, 13] rfl rfl rfl rfl (by decide) (qq := (RX2, TX2, 15)) k_L_51 (c_X2_printed l D cI qc g mm (xs (nI j + 1).toNatClampNeg) ) rfl rfl hd_X2_printed ⟨by decide, by decide⟩ ⟨rfl, rfl⟩ hl.1 (rest := []) rfl (Nat.le_of_ble_eq_true rfl) ⟨by decide, by decide⟩ dL_law_286 (fun H locs Z => ?_)
      refine lv_aload_n X.1 X.2.1 dL_law_289 rfl (lv_at hl 1 rfl) ?_
      refine lv_aload_n X.1 X.2.1 dL_law_290 rfl (lv_at hl 3 rfl) ?_
      refine lv_iload_n X.1 X.2.1 dL_law_291 rfl (lv_at hl 0 rfl) ?_
      refine lv_iconst (v := 1) X.1 X.2.1 dL_law_292 (by decide) ?_
      refine lv_iadd X.1 X.2.1 dL_law_293 ?_
      refine va_sld X.1 X.2.1 hX hbl hbA Z.2.2.1 i1 dL_law_294 ?_
      refine call_VPi X hT Z (wc := mw qm cI f n) (wr := cw qc cI g mm) [0, 1, 2, 3, 4, 5] [6, 7, 8, 9, 10, 11, 12, 13] rfl rfl rfl rfl (by decide) (qq := (RX3, TX3, 11)) k_L_54 (c_X3_printed l D cI qm f n (xs (nI j + 1).toNatClampNeg) ) rfl rfl hd_X3_printed ⟨by decide, by decide⟩ ⟨rfl, rfl⟩ hl.1 (rest := [.int (rX2_printed g mm (xs (nI j + 1).toNatClampNeg))]) rfl (Nat.le_of_ble_eq_true rfl) ⟨by decide, by decide⟩ dL_law_295 (fun H locs Z => ?_)
      refine lv_icmp_eq (tgt := 352) X.1 X.2.1 dL_law_298 (by decide) (fun _ => ?_) (fun c_2 => absurd (sim_printed h (xs (nI j + 1).toNatClampNeg)) c_2)
      exact K g f mm n (h) H locs Z
    · refine lv_tableIn (tgt := 303) (off := 271) X.1 X.2.1 dL_law_32 (by decide) (by decide) (by decide) (by decide) ?_
      refine lv_aload_n X.1 X.2.1 dL_law_303 rfl (lv_at hl 2 rfl) ?_
      refine lv_aload_n X.1 X.2.1 dL_law_304 rfl (lv_at hl 3 rfl) ?_
      refine lv_iload_n X.1 X.2.1 dL_law_305 rfl (lv_at hl 0 rfl) ?_
      refine lv_iconst (v := 1) X.1 X.2.1 dL_law_306 (by decide) ?_
      refine lv_iadd X.1 X.2.1 dL_law_307 ?_
      refine va_sld X.1 X.2.1 hX hbl hbA Z.2.2.1 i1 dL_law_308 ?_
      refine call_VPi X hT Z (wc := cw qc cI g mm) (wr := mw qm cI f n) [0, 1, 2, 3, 4, 5, 6, 7] [8, 9, 10, 11, 12, 13] rfl rfl rfl rfl (by decide) (qq := (RX2, TX2, 15)) k_L_55 (c_X2_trace l D cI qc g mm (xs (nI j + 1).toNatClampNeg) ) rfl rfl hd_X2_trace ⟨by decide, by decide⟩ ⟨rfl, rfl⟩ hl.1 (rest := []) rfl (Nat.le_of_ble_eq_true rfl) ⟨by decide, by decide⟩ dL_law_309 (fun H locs Z => ?_)
      refine lv_aload_n X.1 X.2.1 dL_law_312 rfl (lv_at hl 1 rfl) ?_
      refine lv_aload_n X.1 X.2.1 dL_law_313 rfl (lv_at hl 3 rfl) ?_
      refine lv_iload_n X.1 X.2.1 dL_law_314 rfl (lv_at hl 0 rfl) ?_
      refine lv_iconst (v := 1) X.1 X.2.1 dL_law_315 (by decide) ?_
      refine lv_iadd X.1 X.2.1 dL_law_316 ?_
      refine va_sld X.1 X.2.1 hX hbl hbA Z.2.2.1 i1 dL_law_317 ?_
      refine call_VPi X hT Z (wc := mw qm cI f n) (wr := cw qc cI g mm) [0, 1, 2, 3, 4, 5] [6, 7, 8, 9, 10, 11, 12, 13] rfl rfl rfl rfl (by decide) (qq := (RX3, TX3, 11)) k_L_58 (c_X3_trace l D cI qm f n (xs (nI j + 1).toNatClampNeg) ) rfl rfl hd_X3_trace ⟨by decide, by decide⟩ ⟨rfl, rfl⟩ hl.1 (rest := [.int (rX2_trace g mm (xs (nI j + 1).toNatClampNeg))]) rfl (Nat.le_of_ble_eq_true rfl) ⟨by decide, by decide⟩ dL_law_318 (fun H locs Z => ?_)
      refine lv_icmp_eq (tgt := 352) X.1 X.2.1 dL_law_321 (by decide) (fun _ => ?_) (fun c_2 => absurd (sim_trace h (xs (nI j + 1).toNatClampNeg)) c_2)
      exact K g f mm n (h) H locs Z
    · refine lv_tableIn (tgt := 326) (off := 294) X.1 X.2.1 dL_law_32 (by decide) (by decide) (by decide) (by decide) ?_
      refine lv_aload_n X.1 X.2.1 dL_law_326 rfl (lv_at hl 2 rfl) ?_
      refine call_VPi X hT Z (wc := cw qc cI g mm) (wr := mw qm cI f n) [0, 1, 2, 3, 4, 5, 6, 7] [8, 9, 10, 11, 12, 13] rfl rfl rfl rfl (by decide) (qq := (RX2, TX2, 15)) k_L_59 (c_X2_interrupts l D cI qc g mm ) rfl rfl hd_X2_interrupts ⟨by decide, by decide⟩ ⟨rfl, rfl⟩ hl.1 (rest := []) rfl (Nat.le_of_ble_eq_true rfl) ⟨by decide, by decide⟩ dL_law_327 (fun H locs Z => ?_)
      refine lv_aload_n X.1 X.2.1 dL_law_330 rfl (lv_at hl 1 rfl) ?_
      refine call_VPi X hT Z (wc := mw qm cI f n) (wr := cw qc cI g mm) [0, 1, 2, 3, 4, 5] [6, 7, 8, 9, 10, 11, 12, 13] rfl rfl rfl rfl (by decide) (qq := (RX3, TX3, 11)) k_L_62 (c_X3_interrupts l D cI qm f n ) rfl rfl hd_X3_interrupts ⟨by decide, by decide⟩ ⟨rfl, rfl⟩ hl.1 (rest := [.int (rX2_interrupts g mm)]) rfl (Nat.le_of_ble_eq_true rfl) ⟨by decide, by decide⟩ dL_law_331 (fun H locs Z => ?_)
      refine lv_icmp_eq (tgt := 352) X.1 X.2.1 dL_law_334 (by decide) (fun _ => ?_) (fun c_2 => absurd (h.e9) c_2)
      exact K g f mm n (h) H locs Z
    · refine lv_tableIn (tgt := 339) (off := 307) X.1 X.2.1 dL_law_32 (by decide) (by decide) (by decide) (by decide) ?_
      refine lv_aload_n X.1 X.2.1 dL_law_339 rfl (lv_at hl 2 rfl) ?_
      refine call_VPi X hT Z (wc := cw qc cI g mm) (wr := mw qm cI f n) [0, 1, 2, 3, 4, 5, 6, 7] [8, 9, 10, 11, 12, 13] rfl rfl rfl rfl (by decide) (qq := (RX2, TX2, 15)) k_L_63 (c_X2_skips l D cI qc g mm ) rfl rfl hd_X2_skips ⟨by decide, by decide⟩ ⟨rfl, rfl⟩ hl.1 (rest := []) rfl (Nat.le_of_ble_eq_true rfl) ⟨by decide, by decide⟩ dL_law_340 (fun H locs Z => ?_)
      refine lv_aload_n X.1 X.2.1 dL_law_343 rfl (lv_at hl 1 rfl) ?_
      refine call_VPi X hT Z (wc := mw qm cI f n) (wr := cw qc cI g mm) [0, 1, 2, 3, 4, 5] [6, 7, 8, 9, 10, 11, 12, 13] rfl rfl rfl rfl (by decide) (qq := (RX3, TX3, 11)) k_L_66 (c_X3_skips l D cI qm f n ) rfl rfl hd_X3_skips ⟨by decide, by decide⟩ ⟨rfl, rfl⟩ hl.1 (rest := [.int (rX2_skips g mm)]) rfl (Nat.le_of_ble_eq_true rfl) ⟨by decide, by decide⟩ dL_law_344 (fun H locs Z => ?_)
      refine lv_icmp_eq (tgt := 352) X.1 X.2.1 dL_law_347 (by decide) (fun _ => ?_) (fun c_2 => absurd (h.e10) c_2)
      exact K g f mm n (h) H locs Z
    · refine lv_tableOut (tgt := 352) X.1 X.2.1 dL_law_32 (Or.inr (by rw [nI_toInt (by omega)]; omega)) (by decide) ?_
      exact K g f mm n h H locs Z
theorem fs_X2 : ∀ j, j < 15 → defaultValue (tyX2 j) = vp_V [.null, .null, .null, .null, .int 0, .int 0, .int 0, .int 0, .int 0, .int 0, .int 0, .int 0, .int 0, .int 0, .int 0] j := by
  intro j hj
  have : j = 0 ∨ j = 1 ∨ j = 2 ∨ j = 3 ∨ j = 4 ∨ j = 5 ∨ j = 6 ∨ j = 7 ∨ j = 8 ∨ j = 9 ∨ j = 10 ∨ j = 11 ∨ j = 12 ∨ j = 13 ∨ j = 14 := by omega
  rcases this with rfl | rfl | rfl | rfl | rfl | rfl | rfl | rfl | rfl | rfl | rfl | rfl | rfl | rfl | rfl <;> rfl
theorem fs_X3 : ∀ j, j < 11 → defaultValue (tyX3 j) = vp_V [.null, .null, .null, .null, .null, .int 0, .int 0, .int 0, .int 0, .int 0, .int 0] j := by
  intro j hj
  have : j = 0 ∨ j = 1 ∨ j = 2 ∨ j = 3 ∨ j = 4 ∨ j = 5 ∨ j = 6 ∨ j = 7 ∨ j = 8 ∨ j = 9 ∨ j = 10 := by omega
  rcases this with rfl | rfl | rfl | rfl | rfl | rfl | rfl | rfl | rfl | rfl | rfl <;> rfl
set_option maxRecDepth 20000 in
set_option maxHeartbeats 8000000 in
/-- THE LAW, from its entry -/
theorem whole_start {p : Program} {e : Env} {s : State} {m : MethodId} {below : List Frame} {meth : Method} {c : Code} (l : Launch) {b L : Nat} {xs : Nat → Int32} (hL : L ≤ 1536) (C0 : lw_At p s m meth c b L xs) : W p l e room_1 s m #[Value.ref b] below meth c s.heap [] 0 0 (lw_Z below #[Value.ref b] s) (entryFrame m ([Value.ref b] : List Value).toArray 4) := by
  obtain ⟨hx, hb, hr, hml, hown, hts, hX, hbl, hlocks, hgv⟩ := id C0
  have hT : ∀ w ∈ TB, w ∈ lw_tbl := fun _ h => tb_in h
  have X : CallFix p m c cL_law 4 s #[Value.ref b] lw_tbl RL := ⟨hx, hb, hml, hown, hts⟩
  have hA : ∀ q : Nat, s.heap.size ≤ q → (fun q : Nat => s.heap.size ≤ q) q := fun _ h => h
  obtain ⟨c0, iS0, hKn0⟩ := u_known (C := RX0) (T := TX0) (N := 5) (n := 5) hts (fun w h => tb_in (iX0 w h)) (hts _ (tb_in kw_43))
  obtain ⟨c1, iS1, hKn1⟩ := u_known (C := RX1) (T := TX1) (N := 2) (n := 2) hts (fun w h => tb_in (iX1 w h)) (hts _ (tb_in kw_68))
  obtain ⟨c2, iS2, hKn2⟩ := u_known (C := RX2) (T := TX2) (N := 15) (n := 15) hts (fun w h => tb_in (iX2 w h)) (hts _ (tb_in kw_35))
  obtain ⟨c3, iS3, hKn3⟩ := u_known (C := RX3) (T := TX3) (N := 11) (n := 11) hts (fun w h => tb_in (iX3 w h)) (hts _ (tb_in kw_264))
  obtain ⟨dC, dI, hKc⟩ : ∃ (dC : Nat → ClassId) (dI : Nat → Nat → Nat), ∀ (k : Nat) (q : vw_C), vwCl[k]? = some q → u_Kn s q.1 q.2.1 q.2.2 (dC k) (dI k) := by
    refine ⟨fun k => if k = 0 then c0 else if k = 1 then c1 else if k = 2 then c2 else c3, fun k => if k = 0 then iS0 else if k = 1 then iS1 else if k = 2 then iS2 else iS3, ?_⟩
    intro k q hq
    match k, hq with
    | 0, hq => cases hq; exact hKn0
    | 1, hq => cases hq; exact hKn1
    | 2, hq => cases hq; exact hKn2
    | 3, hq => cases hq; exact hKn3
    | k + 4, hq => simp [vwCl] at hq
  obtain ⟨cI, kA, comp, a1, a2, a3⟩ := Cond.arrayClass_spec (hts _ (tb_in kw_66))
  have hK : va_K (dC, dI) vwCl [(cI, .int)] s := by
    refine ⟨hKc, fun k q h => ?_⟩
    match k, h with
    | 0, h => cases h; exact ⟨fun n z => ⟨fun k h => (by cases h), kA, a2, comp, a3⟩, a1⟩
    | k + 1, h => simp at h
  have Z : ZZ (dC, dI) cI [] (fun q : Nat => s.heap.size ≤ q) s s.heap [] := ⟨fun k q h => by simp at h, ⟨fun i j p q h => by simp at h, fun k q h => by simp at h⟩, va_S.rf, hK, NW_of hts, hA⟩
  have hl := lv_entry ([.ref b]) (n := 4) (Nat.le_of_ble_eq_true rfl)
  rw [lg_entry_eq]
  generalize (lg_sl ([.ref b]) ++ List.replicate (4 - (lg_sl ([.ref b])).length) Slot.unset).toArray = ls at hl ⊢
  have hl : lv_has ls 4 [(0, .ref b)] := hl
  refine z_new (ci := 2) (fs := [.null, .null, .null, .null, .int 0, .int 0, .int 0, .int 0, .int 0, .int 0, .int 0, .int 0, .int 0, .int 0, .int 0]) X hT Z iX2 tyX2 tyX2_ok kw_34 kw_35 kw_30 rfl fs_X2 (by decide) (by decide) dL_law_0 (fun k1 H Z => ?_)
  refine lv_dup X.1 X.2.1 dL_law_3 rfl ?_
  refine call_I (wc := [(k1, .inr (2, [.null, .null, .null, .null, .int 0, .int 0, .int 0, .int 0, .int 0, .int 0, .int 0, .int 0, .int 0, .int 0, .int 0]))]) (wr := []) X hT Z [0] [] rfl rfl rfl rfl (by decide) kw_36 kw_37 kw_30 kw_38 rfl (c_X2_init l (dC, dI) cI k1) hi_X2_init ⟨by decide, by decide⟩ ⟨rfl, rfl⟩ hl.1 (rest := [.ref k1]) rfl (Nat.le_of_ble_eq_true rfl) ⟨by decide, by decide⟩ dL_law_4 (fun w1 H locs hP Z => ?_)
  obtain ⟨qc, rfl, rfl⟩ := hP
  refine lv_astore_n (lv' := [(1, .ref (qc 0)), (0, .ref b)]) X.1 X.2.1 dL_law_7 rfl hl (by decide) rfl (fun ls hl => ?_)
  refine z_new (ci := 3) (fs := [.null, .null, .null, .null, .null, .int 0, .int 0, .int 0, .int 0, .int 0, .int 0]) X hT Z iX3 tyX3 tyX3_ok kw_263 kw_264 kw_33 rfl fs_X3 (by decide) (by decide) dL_law_8 (fun k2 H Z => ?_)
  refine lv_dup X.1 X.2.1 dL_law_11 rfl ?_
  refine call_I (wc := [(k2, .inr (3, [.null, .null, .null, .null, .null, .int 0, .int 0, .int 0, .int 0, .int 0, .int 0]))]) (wr := cw qc cI (fun _ => 0) (fun _ _ => 0)) X hT Z [8] [0, 1, 2, 3, 4, 5, 6, 7] rfl rfl rfl rfl (by decide) kw_265 kw_266 kw_33 kw_267 rfl (c_X3_init l (dC, dI) cI k2) hi_X3_init ⟨by decide, by decide⟩ ⟨rfl, rfl⟩ hl.1 (rest := [.ref k2]) rfl (Nat.le_of_ble_eq_true rfl) ⟨by decide, by decide⟩ dL_law_12 (fun w1 H locs hP Z => ?_)
  obtain ⟨qm, rfl, rfl⟩ := hP
  refine lv_astore_n (lv' := [(2, .ref (qm 0)), (1, .ref (qc 0)), (0, .ref b)]) X.1 X.2.1 dL_law_15 rfl hl (by decide) rfl (fun ls hl => ?_)
  refine lv_iconst (v := 0) X.1 X.2.1 dL_law_16 (by decide) ?_
  refine lv_istore_n (lv' := [(3, .int 0), (2, .ref (qm 0)), (1, .ref (qc 0)), (0, .ref b)]) X.1 X.2.1 dL_law_17 rfl hl (by decide) rfl (fun ls hl => ?_)
  exact law_loop (dC, dI) cI qc qm X hr hlocks hL hX hbl (L + 1) 0 (fun _ => 0) (fun _ => 0) (fun _ _ => 0) (fun _ _ => 0) sim_0 (by omega) (by omega) ls _ _ hl Z
