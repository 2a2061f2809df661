/-! the third group, the first group with its turns, the devices -/
section SIMB
variable {g f : Nat → Int32} {mm n : Nat → Nat → Int32}
theorem RR.am {g2 : Nat → Int32} {S T : Int32} (h : RR g mm f n) (e0 : g2 0 = S) (e3 : g2 3 = T) (he : ∀ j, j ≠ 0 → j ≠ 3 → g2 j = g j) (hS : w12 S) (hT : w12 T) : RR g2 mm f (va_up (va_up n 1 (upd (n 1) 0 S)) 1 (upd ((va_up n 1 (upd (n 1) 0 S)) 1) 3 T)) := by
  obtain ⟨⟨h0, h1, h2, h3, h4, h5, h6, h7, h8, h13, h14, h9, h10, h11, h12, h15, h16⟩, ⟨v0, v1, v2, v3, v4, v5, v6, v7, v8, v9, v10⟩, ht, hc, hw, htp, ht8, hr1, hr2⟩ := h
  refine ⟨⟨e0, (he 1 (by decide) (by decide)).trans h1, (he 2 (by decide) (by decide)).trans h2, e3, (he 4 (by decide) (by decide)).trans h4, (he 5 (by decide) (by decide)).trans h5, (he 6 (by decide) (by decide)).trans h6, (he 7 (by decide) (by decide)).trans h7, (he 8 (by decide) (by decide)).trans h8, (he 13 (by decide) (by decide)).trans h13, (he 14 (by decide) (by decide)).trans h14, (he 9 (by decide) (by decide)).trans h9, (he 10 (by decide) (by decide)).trans h10, (he 11 (by decide) (by decide)).trans h11, (he 12 (by decide) (by decide)).trans h12, (he 15 (by decide) (by decide)).trans h15, (he 16 (by decide) (by decide)).trans h16⟩, ⟨hS, v1, v2, hT, v4, v5, v6, v7, v8, v9, v10⟩, ht, hc, hw, htp, ht8, ?_, ?_⟩
  · rw [he 15 (by decide) (by decide)]
    exact hr1
  · rw [he 16 (by decide) (by decide)]
    exact hr2
theorem or0 {x : Int32} (h : w12 x) : 0 ||| x = x := by
  obtain ⟨k, hk, rfl⟩ := h
  rw [← nI_0, nI_or, Nat.zero_or]
theorem sim_third {w : Int32} (h : RR g mm f n) (hw : w12 w) : RR (gX2_exchangeWithMq g mm w) mm f (mX3_third f n w) := by
  show RR (uX2_exchangeWithMq_j67_g w (uX2_exchangeWithMq_j15_g g w) (uX2_exchangeWithMq_j52_g w (uX2_exchangeWithMq_j15_g g w))) mm f (va_up (va_up n 1 (upd (n 1) 0 (uX3_third_j84_s0 n w (uX3_third_j20_s0 n w)))) 1 (upd ((va_up n 1 (upd (n 1) 0 (uX3_third_j84_s0 n w (uX3_third_j20_s0 n w)))) 1) 3 (uX3_third_j100_s0 n w (uX3_third_j20_s0 n w))))
  have h1 : uX2_exchangeWithMq_j15_g g w 0 = uX3_third_j20_s0 n w ∧ w12 (uX3_third_j20_s0 n w) ∧ ∀ j, j ≠ 0 → uX2_exchangeWithMq_j15_g g w j = g j := by
    unfold uX2_exchangeWithMq_j15_g uX3_third_j20_s0
    rw [has_128 hw]
    split
    · exact ⟨h.e0, h.v0, fun _ _ => rfl⟩
    · exact ⟨rfl, w12_0, fun j hj => if_neg hj⟩
  obtain ⟨e0, wa, ej⟩ := h1
  generalize uX2_exchangeWithMq_j15_g g w = G at e0 ej
  generalize uX3_third_j20_s0 n w = a at e0 wa
  have e3 : G 3 = n 1 3 := (ej 3 (by decide)).trans h.e3
  unfold uX2_exchangeWithMq_j67_g uX2_exchangeWithMq_j52_g uX3_third_j84_s0 uX3_third_j100_s0
  rw [has_16 hw, has_64 hw]
  by_cases c1 : rX3_has w 16 = 0
  · by_cases c2 : rX3_has w 64 = 0
    · simp only [if_pos c1, if_pos c2]
      exact h.am e0 e3 (fun j h0 _ => ej j h0) wa h.v3
    · simp only [if_pos c1, if_neg c2]
      refine h.am ?_ e3 (fun j h0 _ => (if_neg h0).trans (ej j h0)) (wa.or h.v3) h.v3
      show G 0 ||| G 3 = _
      rw [e0, e3]
  · by_cases c2 : rX3_has w 64 = 0
    · simp only [if_neg c1, if_pos c2]
      refine h.am rfl e0 (fun j h0 h3 => ?_) w12_0 wa
      exact (if_neg h0).trans ((if_neg h3).trans (ej j h0))
    · simp only [if_neg c1, if_neg c2]
      refine h.am ?_ e0 (fun j h0 h3 => ?_) h.v3 wa
      · show 0 ||| G 3 = _
        rw [e3]
        exact or0 h.v3
      · exact (if_neg h0).trans ((if_neg h0).trans ((if_neg h3).trans (ej j h0)))
theorem rot_lt (p k : Nat) : rot p k < 8192 := Nat.mod_lt _ (by decide)
theorem has_b (w B : Int32) : rX3_has w B = 0 ∨ rX3_has w B = 1 := by
  show uX3_has_j14_s0 w B = 0 ∨ uX3_has_j14_s0 w B = 1
  unfold uX3_has_j14_s0
  split
  · exact Or.inr rfl
  · exact Or.inl rfl
def stK (n : Nat → Nat → Int32) (K : Nat) : Prop := K < 8192 ∧ n 1 1 = nI (K / 4096) ∧ n 1 0 = nI (K % 4096)
theorem RR.st (h : RR g mm f n) : ∃ K, stK n K := by
  obtain ⟨a, ha, ea⟩ := h.v0
  rcases h.v1 with e | e
  · exact ⟨a, by omega, by rw [e, Nat.div_eq_of_lt ha]; rfl, by rw [ea, Nat.mod_eq_of_lt ha]⟩
  · refine ⟨4096 + a, by omega, ?_, ?_⟩
    · rw [e, show (4096 + a) / 4096 = 1 by omega]; rfl
    · rw [ea, show (4096 + a) % 4096 = a by omega]
def setK (n : Nat → Nat → Int32) (R : Nat) : Nat → Nat → Int32 := va_up (va_up n 1 (upd (n 1) 1 (nI (R / 4096)))) 1 (upd ((va_up n 1 (upd (n 1) 1 (nI (R / 4096)))) 1) 0 (nI (R % 4096)))
theorem setK_st {R : Nat} (hR : R < 8192) : stK (setK n R) R := ⟨hR, rfl, rfl⟩
theorem tn_set {lf : Int32} {K : Nat} (h : stK n K) : tnX3 lf n = setK n (if lf = 0 then rot 12 K else rot 1 K) := by
  obtain ⟨hK, h1, h0⟩ := h
  obtain ⟨q1, q2, q3, q4, q5, -, -⟩ := alN K hK
  have q1' : (n 1 1) * 4096 + n 1 0 = nI K := by rw [h1, h0]; exact q1
  show va_up (va_up n 1 (upd (n 1) 1 (uX3_first_j192_l5 n lf / 4096))) 1 (upd ((va_up n 1 (upd (n 1) 1 (uX3_first_j192_l5 n lf / 4096))) 1) 0 (uX3_first_j192_l5 n lf - uX3_first_j192_l5 n lf / 4096 * 4096)) = _
  have e : uX3_first_j192_l5 n lf = nI (if lf = 0 then rot 12 K else rot 1 K) := by
    unfold uX3_first_j192_l5
    rw [q1']
    split
    · exact q2
    · exact q3
  have hR : (if lf = 0 then rot 12 K else rot 1 K) < 8192 := by split <;> exact rot_lt _ _
  rw [e]
  generalize (if lf = 0 then rot 12 K else rot 1 K) = R at hR
  obtain ⟨-, -, -, q4, q5, -, -⟩ := alN R hR
  unfold setK
  rw [q5, q4]
theorem RR.setK {R : Nat} (h : RR g mm f n) (hR : R < 8192) : RR (upd (upd g 1 (nI (R / 4096))) 0 (nI (R % 4096))) mm f (setK n R) := by
  refine (h.s1 (v := nI (R / 4096)) rfl ?_).s0 rfl ⟨_, Nat.mod_lt _ (by decide), rfl⟩
  have : R / 4096 = 0 ∨ R / 4096 = 1 := by omega
  rcases this with e | e
  · rw [e]; exact Or.inl rfl
  · rw [e]; exact Or.inr rfl
theorem tl_set {p : Int32} {K R : Nat} (h : RR g mm f n) (hK : stK n K) (hR : R < 8192) (hp : tl (nI (K / 4096)) (nI (K % 4096)) p = nI R) : gX2_turnLeft g mm p = upd (upd g 1 (nI (R / 4096))) 0 (nI (R % 4096)) := by
  obtain ⟨-, -, -, -, -, q6, q7⟩ := alN R hR
  show upd (upd g 1 (tl (g 1) (g 0) p >>> ((12 : Int32) &&& 31))) 0 (tl (g 1) (g 0) p &&& 4095) = _
  rw [h.e1, h.e0, hK.2.1, hK.2.2, hp, q6, q7]
theorem upd4 {a b x y : Int32} : upd (upd (upd (upd g 1 a) 0 b) 1 x) 0 y = upd (upd g 1 x) 0 y := by
  funext j
  unfold upd
  by_cases h0 : j = 0
  · rw [if_pos h0, if_pos h0]
  · by_cases h1 : j = 1
    · rw [if_neg h0, if_pos h1, if_neg h0, if_pos h1]
    · rw [if_neg h0, if_neg h1, if_neg h0, if_neg h1, if_neg h0, if_neg h1]
theorem sim_turn1 {p lf : Int32} {rp : Nat} (h : RR g mm f n) (hr : ∀ K, (if lf = 0 then rot 12 K else rot 1 K) = rot rp K) (hp : ∀ K, K < 8192 → tl (nI (K / 4096)) (nI (K % 4096)) p = nI (rot rp K)) : RR (gX2_turnLeft g mm p) mm f (tnN lf 1 n) := by
  obtain ⟨K, hK⟩ := h.st
  show RR (gX2_turnLeft g mm p) mm f (tnX3 lf n)
  rw [tn_set hK, hr, tl_set h hK (rot_lt rp K) (hp K hK.1)]
  exact h.setK (rot_lt rp K)
theorem sim_turn2 {p lf : Int32} {rp : Nat} (h : RR g mm f n) (hr : ∀ K, (if lf = 0 then rot 12 K else rot 1 K) = rot rp K) (hp : ∀ K, K < 8192 → tl (nI (K / 4096)) (nI (K % 4096)) p = nI (rot rp (rot rp K))) : RR (gX2_turnLeft g mm p) mm f (tnN lf 2 n) := by
  obtain ⟨K, hK⟩ := h.st
  show RR (gX2_turnLeft g mm p) mm f (tnX3 lf (tnX3 lf n))
  rw [tn_set hK, hr, tn_set (setK_st (rot_lt rp K)), hr, tl_set h hK (rot_lt rp _) (hp K hK.1)]
  exact ((h.setK (rot_lt rp K)).setK (rot_lt rp (rot rp K))).ga upd4
theorem sim_first {w : Int32} (h : RR g mm f n) (hw : w12 w) : RR (gX2_changeAccumulator g mm w) mm f (mX3_first f n w) := by
  show RR (uX2_changeAccumulator_j144_g mm w (uX2_changeAccumulator_j82_g mm w (uX2_changeAccumulator_j69_g w (uX2_changeAccumulator_j50_g w (uX2_changeAccumulator_j29_g w (uX2_changeAccumulator_j15_g g w))))) (uX2_changeAccumulator_j95_s0 w)) mm f (if rX3_has w 4 = rX3_has w 8 then (uX3_first_j94_mm f w (uX3_first_j81_mm w (uX3_first_j58_mm w (uX3_first_j33_mm w (uX3_first_j17_mm n w))))) else tnN (rX3_has w 4) (tF w) (uX3_first_j94_mm f w (uX3_first_j81_mm w (uX3_first_j58_mm w (uX3_first_j33_mm w (uX3_first_j17_mm n w))))))
  have h1 : RR (uX2_changeAccumulator_j15_g g w) mm f (uX3_first_j17_mm n w) := by
    unfold uX2_changeAccumulator_j15_g uX3_first_j17_mm
    rw [has_128 hw]
    split
    · exact h
    · exact h.s0 rfl w12_0
  generalize uX2_changeAccumulator_j15_g g w = g1 at h1
  generalize uX3_first_j17_mm n w = n1 at h1
  have h2 : RR (uX2_changeAccumulator_j29_g w g1) mm f (uX3_first_j33_mm w n1) := by
    unfold uX2_changeAccumulator_j29_g uX3_first_j33_mm
    rw [has_64 hw]
    split
    · exact h1
    · exact h1.s1 rfl (Or.inl rfl)
  generalize uX2_changeAccumulator_j29_g w g1 = g2 at h2
  generalize uX3_first_j33_mm w n1 = n2 at h2
  have h3 : RR (uX2_changeAccumulator_j50_g w g2) mm f (uX3_first_j58_mm w n2) := by
    unfold uX2_changeAccumulator_j50_g uX3_first_j58_mm
    rw [has_32 hw]
    split
    · exact h2
    · obtain ⟨k, hk, ek⟩ := h2.v0
      refine h2.s0 ?_ ⟨4095 - k, by omega, ?_⟩
      · rw [h2.e0, ek]
        exact (cmN k hk).1
      · rw [ek]
        exact (cmN k hk).2
  generalize uX2_changeAccumulator_j50_g w g2 = g3 at h3
  generalize uX3_first_j58_mm w n2 = n3 at h3
  have h4 : RR (uX2_changeAccumulator_j69_g w g3) mm f (uX3_first_j81_mm w n3) := by
    unfold uX2_changeAccumulator_j69_g uX3_first_j81_mm
    rw [has_16 hw]
    split
    · exact h3
    · exact h3.s1 (by rw [h3.e1]; exact (xr1 h3.v1).1) (xr1 h3.v1).2
  generalize uX2_changeAccumulator_j69_g w g3 = g4 at h4
  generalize uX3_first_j81_mm w n3 = n4 at h4
  have h5 : RR (uX2_changeAccumulator_j82_g mm w g4) mm f (uX3_first_j94_mm f w n4) := by
    unfold uX2_changeAccumulator_j82_g uX3_first_j94_mm
    rw [has_1 hw]
    split
    · exact h4
    · exact sim_add h4 ⟨1, by decide, rfl⟩
  generalize uX2_changeAccumulator_j82_g mm w g4 = g5 at h5
  generalize uX3_first_j94_mm f w n4 = n5 at h5
  unfold uX2_changeAccumulator_j144_g uX2_changeAccumulator_j95_s0 tF
  rw [has_4 hw, has_8 hw, has_2 hw]
  have e01 : ¬ (1 : Int32) = 0 := by decide
  have e10 : ¬ (0 : Int32) = 1 := by decide
  rcases has_b w 4 with c4 | c4 <;> rcases has_b w 8 with c8 | c8 <;> rw [c4, c8]
  · simp only [if_pos]
    exact h5
  · simp only [if_pos, if_neg e01, if_neg e10]
    by_cases c2 : rX3_has w 2 = 0
    · simp only [if_pos c2]
      exact sim_turn1 (rp := 12) h5 (fun K => if_pos rfl) tlN_12
    · simp only [if_neg c2]
      exact sim_turn2 (rp := 12) h5 (fun K => if_pos rfl) tlN_11
  · simp only [if_pos, if_neg e01]
    by_cases c2 : rX3_has w 2 = 0
    · simp only [if_pos c2]
      exact sim_turn1 (rp := 1) h5 (fun K => if_neg e01) tlN_1
    · simp only [if_neg c2]
      exact sim_turn2 (rp := 1) h5 (fun K => if_neg e01) tlN_2
  · simp only [if_pos, if_neg e01]
    exact h5
theorem upd_id {k : Nat} {x : Int32} (h : x = g k) : upd g k x = g := by
  funext j
  unfold upd
  split
  · rename_i e
    rw [e, h]
  · rfl
theorem upd_c {x y : Int32} : upd (upd (upd (upd g 14 0) 13 x) 14 1) 12 y = upd (upd (upd g 12 y) 13 x) 14 1 := by
  funext j
  unfold upd
  by_cases h0 : j = 14
  · subst h0
    rfl
  · by_cases h1 : j = 13
    · subst h1
      rfl
    · by_cases h2 : j = 12
      · subst h2
        rfl
      · simp only [if_neg h0, if_neg h1, if_neg h2]
theorem sim_adv (h : RR g mm f n) : RR (upd (upd (upd g 12 (tkX0_restart (g 11) (g 12) (g 13) (g 14) (mm 1))) 13 (bfX0_restart (g 11) (g 12) (g 13) (g 14) (mm 1))) 14 (flX0_restart (g 11) (g 12) (g 13) (g 14) (mm 1))) mm (gX3_advance f n) (mX3_advance f n) := by
  obtain ⟨a, b, hab, hb, ea, eb⟩ := h.rt
  show RR (upd (upd (upd g 12 (uX0_restart_j44_tk (g 11) (g 12))) 13 (uX0_restart_j44_bf (g 11) (g 12) (g 13) (mm 1))) 14 (uX0_restart_j44_fl (g 11) (g 12))) mm _ _
  unfold uX0_restart_j44_tk uX0_restart_j44_bf uX0_restart_j44_fl gX3_advance mX3_advance
  have e11 : g 11 = nI b := h.e11.trans eb
  have e12 : g 12 = nI a := h.e12.trans ea
  by_cases c : a = b
  · subst c
    have c1 : g 11 ≤ g 12 := by rw [e11, e12]; exact nI_le (Nat.le_refl _) (by omega)
    have c2 : f 1 = f 0 := by rw [ea, eb]
    simp only [if_pos c1, if_pos c2]
    rw [upd_id (k := 12) rfl, upd_id (k := 13) rfl]
    exact h.s14 rfl (Or.inl rfl)
  · have c1 : ¬ g 11 ≤ g 12 := by rw [e11, e12]; exact nI_ge (by omega) (by omega)
    have c2 : ¬ f 1 = f 0 := by rw [ea, eb]; exact fun q => c ((nI_eq (by omega) (by omega)).mp q)
    simp only [if_neg c1, if_neg c2]
    have h1 := h.s14 (v := 0) rfl (Or.inl rfl)
    have h2 := h1.s13 (v := mm 1 (g 12).toNatClampNeg) (vv := (va_up n 1 (upd (n 1) 7 0)) 2 ((f 1).toNatClampNeg)) (by rw [h.e12, h.t0]; rfl) (h.tw _)
    have h3 := h2.s14 (v := 1) rfl (Or.inr rfl)
    have h4 := h3.i12 (v := g 12 + 1) (vv := f 1 + 1) (by rw [h.e12]) ⟨a + 1, b, by omega, hb, by show f 1 + 1 = _; rw [ea]; exact nI_1 a, eb⟩
    exact h4.ga upd_c
theorem dv_ne {w : Int32} {d v : Int32} (hv : d + 3072 = v) (h : ¬ w = v) : ¬ w - 3072 = d := by
  intro q
  apply h
  rw [← hv, ← q]
  exact (Int32.sub_add_cancel w 3072).symm
theorem sim_device {w : Int32} (h : RR g mm f n) : RR (gX2_performDevice g mm w) (mX2_performDevice g mm w) (gX3_device f n w) (mX3_device f n w) := by
  show RR (uX2_performDevice_j311_g g mm w) (uX2_performDevice_j311_mm g mm w) (uX3_device_j256_g w (uX3_device_j169_g w (uX3_device_j148_g w (uX3_device_j74_g f w (uX3_device_j53_mm w (uX3_device_j39_mm w (uX3_device_j19_mm n w)))) (uX3_device_j132_mm w (uX3_device_j113_mm w (uX3_device_j87_mm w (uX3_device_j74_mm f w (uX3_device_j53_mm w (uX3_device_j39_mm w (uX3_device_j19_mm n w)))))))) (uX3_device_j148_mm w (uX3_device_j74_g f w (uX3_device_j53_mm w (uX3_device_j39_mm w (uX3_device_j19_mm n w)))) (uX3_device_j132_mm w (uX3_device_j113_mm w (uX3_device_j87_mm w (uX3_device_j74_mm f w (uX3_device_j53_mm w (uX3_device_j39_mm w (uX3_device_j19_mm n w)))))))))) (uX3_device_j256_mm w (uX3_device_j183_mm w (uX3_device_j169_mm w (uX3_device_j148_g w (uX3_device_j74_g f w (uX3_device_j53_mm w (uX3_device_j39_mm w (uX3_device_j19_mm n w)))) (uX3_device_j132_mm w (uX3_device_j113_mm w (uX3_device_j87_mm w (uX3_device_j74_mm f w (uX3_device_j53_mm w (uX3_device_j39_mm w (uX3_device_j19_mm n w)))))))) (uX3_device_j148_mm w (uX3_device_j74_g f w (uX3_device_j53_mm w (uX3_device_j39_mm w (uX3_device_j19_mm n w)))) (uX3_device_j132_mm w (uX3_device_j113_mm w (uX3_device_j87_mm w (uX3_device_j74_mm f w (uX3_device_j53_mm w (uX3_device_j39_mm w (uX3_device_j19_mm n w))))))))))) 
  unfold uX3_device_j256_g uX3_device_j169_g uX3_device_j148_g uX3_device_j74_g uX3_device_j256_mm uX3_device_j183_mm uX3_device_j169_mm uX3_device_j148_mm uX3_device_j132_mm uX3_device_j113_mm uX3_device_j87_mm uX3_device_j74_mm uX3_device_j53_mm uX3_device_j39_mm uX3_device_j19_mm uX2_performDevice_j311_g uX2_performDevice_j311_mm
  by_cases c3073 : w = 3073
  · subst c3073
    simp only [if_pos (show (3073 : Int32) - 3072 = 1 by decide), if_neg (show ¬ (3073 : Int32) - 3072 = 2 by decide), if_neg (show ¬ (3073 : Int32) - 3072 = 24 by decide), if_neg (show ¬ (3073 : Int32) - 3072 = 25 by decide), if_neg (show ¬ (3073 : Int32) - 3072 = 26 by decide), if_neg (show ¬ (3073 : Int32) - 3072 = 28 by decide), if_neg (show ¬ (3073 : Int32) - 3072 = 30 by decide), if_neg (show ¬ (3073 : Int32) - 3072 = 33 by decide), if_neg (show ¬ (3073 : Int32) - 3072 = 34 by decide), if_neg (show ¬ (3073 : Int32) - 3072 = 36 by decide), if_neg (show ¬ (3073 : Int32) - 3072 = 38 by decide), if_pos (show (3073 : Int32) = 3073 by decide), if_neg (show ¬ (3073 : Int32) = 3074 by decide), if_neg (show ¬ (3073 : Int32) = 3096 by decide), if_neg (show ¬ (3073 : Int32) = 3097 by decide), if_neg (show ¬ (3073 : Int32) = 3098 by decide), if_neg (show ¬ (3073 : Int32) = 3100 by decide), if_neg (show ¬ (3073 : Int32) = 3102 by decide), if_neg (show ¬ (3073 : Int32) = 3105 by decide), if_neg (show ¬ (3073 : Int32) = 3106 by decide), if_neg (show ¬ (3073 : Int32) = 3108 by decide), if_neg (show ¬ (3073 : Int32) = 3110 by decide)]
    exact h.s7 rfl (Or.inr rfl)
  by_cases c3074 : w = 3074
  · subst c3074
    simp only [if_neg (show ¬ (3074 : Int32) - 3072 = 1 by decide), if_pos (show (3074 : Int32) - 3072 = 2 by decide), if_neg (show ¬ (3074 : Int32) - 3072 = 24 by decide), if_neg (show ¬ (3074 : Int32) - 3072 = 25 by decide), if_neg (show ¬ (3074 : Int32) - 3072 = 26 by decide), if_neg (show ¬ (3074 : Int32) - 3072 = 28 by decide), if_neg (show ¬ (3074 : Int32) - 3072 = 30 by decide), if_neg (show ¬ (3074 : Int32) - 3072 = 33 by decide), if_neg (show ¬ (3074 : Int32) - 3072 = 34 by decide), if_neg (show ¬ (3074 : Int32) - 3072 = 36 by decide), if_neg (show ¬ (3074 : Int32) - 3072 = 38 by decide), if_neg (show ¬ (3074 : Int32) = 3073 by decide), if_pos (show (3074 : Int32) = 3074 by decide), if_neg (show ¬ (3074 : Int32) = 3096 by decide), if_neg (show ¬ (3074 : Int32) = 3097 by decide), if_neg (show ¬ (3074 : Int32) = 3098 by decide), if_neg (show ¬ (3074 : Int32) = 3100 by decide), if_neg (show ¬ (3074 : Int32) = 3102 by decide), if_neg (show ¬ (3074 : Int32) = 3105 by decide), if_neg (show ¬ (3074 : Int32) = 3106 by decide), if_neg (show ¬ (3074 : Int32) = 3108 by decide), if_neg (show ¬ (3074 : Int32) = 3110 by decide)]
    exact (h.s6 rfl (Or.inl rfl)).s7 rfl (Or.inl rfl)
  by_cases c3096 : w = 3096
  · subst c3096
    simp only [if_neg (show ¬ (3096 : Int32) - 3072 = 1 by decide), if_neg (show ¬ (3096 : Int32) - 3072 = 2 by decide), if_pos (show (3096 : Int32) - 3072 = 24 by decide), if_neg (show ¬ (3096 : Int32) - 3072 = 25 by decide), if_neg (show ¬ (3096 : Int32) - 3072 = 26 by decide), if_neg (show ¬ (3096 : Int32) - 3072 = 28 by decide), if_neg (show ¬ (3096 : Int32) - 3072 = 30 by decide), if_neg (show ¬ (3096 : Int32) - 3072 = 33 by decide), if_neg (show ¬ (3096 : Int32) - 3072 = 34 by decide), if_neg (show ¬ (3096 : Int32) - 3072 = 36 by decide), if_neg (show ¬ (3096 : Int32) - 3072 = 38 by decide), if_neg (show ¬ (3096 : Int32) = 3073 by decide), if_neg (show ¬ (3096 : Int32) = 3074 by decide), if_pos (show (3096 : Int32) = 3096 by decide), if_neg (show ¬ (3096 : Int32) = 3097 by decide), if_neg (show ¬ (3096 : Int32) = 3098 by decide), if_neg (show ¬ (3096 : Int32) = 3100 by decide), if_neg (show ¬ (3096 : Int32) = 3102 by decide), if_neg (show ¬ (3096 : Int32) = 3105 by decide), if_neg (show ¬ (3096 : Int32) = 3106 by decide), if_neg (show ¬ (3096 : Int32) = 3108 by decide), if_neg (show ¬ (3096 : Int32) = 3110 by decide)]
    exact h.s14 rfl (Or.inl rfl)
  by_cases c3097 : w = 3097
  · subst c3097
    simp only [if_neg (show ¬ (3097 : Int32) - 3072 = 1 by decide), if_neg (show ¬ (3097 : Int32) - 3072 = 2 by decide), if_neg (show ¬ (3097 : Int32) - 3072 = 24 by decide), if_pos (show (3097 : Int32) - 3072 = 25 by decide), if_neg (show ¬ (3097 : Int32) - 3072 = 26 by decide), if_neg (show ¬ (3097 : Int32) - 3072 = 28 by decide), if_neg (show ¬ (3097 : Int32) - 3072 = 30 by decide), if_neg (show ¬ (3097 : Int32) - 3072 = 33 by decide), if_neg (show ¬ (3097 : Int32) - 3072 = 34 by decide), if_neg (show ¬ (3097 : Int32) - 3072 = 36 by decide), if_neg (show ¬ (3097 : Int32) - 3072 = 38 by decide), if_neg (show ¬ (3097 : Int32) = 3073 by decide), if_neg (show ¬ (3097 : Int32) = 3074 by decide), if_neg (show ¬ (3097 : Int32) = 3096 by decide), if_pos (show (3097 : Int32) = 3097 by decide), if_neg (show ¬ (3097 : Int32) = 3098 by decide), if_neg (show ¬ (3097 : Int32) = 3100 by decide), if_neg (show ¬ (3097 : Int32) = 3102 by decide), if_neg (show ¬ (3097 : Int32) = 3105 by decide), if_neg (show ¬ (3097 : Int32) = 3106 by decide), if_neg (show ¬ (3097 : Int32) = 3108 by decide), if_neg (show ¬ (3097 : Int32) = 3110 by decide)]
    by_cases cc : n 1 7 = 1
    · simp only [if_pos cc]
      exact sim_skip h (by rw [h.e14, cc]; decide)
    · simp only [if_neg cc]
      rw [skip_0 (h.e14.trans (h.v7.resolve_right cc))]
      exact h
  by_cases c3098 : w = 3098
  · subst c3098
    simp only [if_neg (show ¬ (3098 : Int32) - 3072 = 1 by decide), if_neg (show ¬ (3098 : Int32) - 3072 = 2 by decide), if_neg (show ¬ (3098 : Int32) - 3072 = 24 by decide), if_neg (show ¬ (3098 : Int32) - 3072 = 25 by decide), if_pos (show (3098 : Int32) - 3072 = 26 by decide), if_neg (show ¬ (3098 : Int32) - 3072 = 28 by decide), if_neg (show ¬ (3098 : Int32) - 3072 = 30 by decide), if_neg (show ¬ (3098 : Int32) - 3072 = 33 by decide), if_neg (show ¬ (3098 : Int32) - 3072 = 34 by decide), if_neg (show ¬ (3098 : Int32) - 3072 = 36 by decide), if_neg (show ¬ (3098 : Int32) - 3072 = 38 by decide), if_neg (show ¬ (3098 : Int32) = 3073 by decide), if_neg (show ¬ (3098 : Int32) = 3074 by decide), if_neg (show ¬ (3098 : Int32) = 3096 by decide), if_neg (show ¬ (3098 : Int32) = 3097 by decide), if_pos (show (3098 : Int32) = 3098 by decide), if_neg (show ¬ (3098 : Int32) = 3100 by decide), if_neg (show ¬ (3098 : Int32) = 3102 by decide), if_neg (show ¬ (3098 : Int32) = 3105 by decide), if_neg (show ¬ (3098 : Int32) = 3106 by decide), if_neg (show ¬ (3098 : Int32) = 3108 by decide), if_neg (show ¬ (3098 : Int32) = 3110 by decide)]
    exact sim_adv (h.s0 (v := 0) rfl w12_0)
  by_cases c3100 : w = 3100
  · subst c3100
    simp only [if_neg (show ¬ (3100 : Int32) - 3072 = 1 by decide), if_neg (show ¬ (3100 : Int32) - 3072 = 2 by decide), if_neg (show ¬ (3100 : Int32) - 3072 = 24 by decide), if_neg (show ¬ (3100 : Int32) - 3072 = 25 by decide), if_neg (show ¬ (3100 : Int32) - 3072 = 26 by decide), if_pos (show (3100 : Int32) - 3072 = 28 by decide), if_neg (show ¬ (3100 : Int32) - 3072 = 30 by decide), if_neg (show ¬ (3100 : Int32) - 3072 = 33 by decide), if_neg (show ¬ (3100 : Int32) - 3072 = 34 by decide), if_neg (show ¬ (3100 : Int32) - 3072 = 36 by decide), if_neg (show ¬ (3100 : Int32) - 3072 = 38 by decide), if_neg (show ¬ (3100 : Int32) = 3073 by decide), if_neg (show ¬ (3100 : Int32) = 3074 by decide), if_neg (show ¬ (3100 : Int32) = 3096 by decide), if_neg (show ¬ (3100 : Int32) = 3097 by decide), if_neg (show ¬ (3100 : Int32) = 3098 by decide), if_pos (show (3100 : Int32) = 3100 by decide), if_neg (show ¬ (3100 : Int32) = 3102 by decide), if_neg (show ¬ (3100 : Int32) = 3105 by decide), if_neg (show ¬ (3100 : Int32) = 3106 by decide), if_neg (show ¬ (3100 : Int32) = 3108 by decide), if_neg (show ¬ (3100 : Int32) = 3110 by decide)]
    exact h.s0 (by rw [h.e0, h.e13]) (h.v0.or h.v8.w)
  by_cases c3102 : w = 3102
  · subst c3102
    simp only [if_neg (show ¬ (3102 : Int32) - 3072 = 1 by decide), if_neg (show ¬ (3102 : Int32) - 3072 = 2 by decide), if_neg (show ¬ (3102 : Int32) - 3072 = 24 by decide), if_neg (show ¬ (3102 : Int32) - 3072 = 25 by decide), if_neg (show ¬ (3102 : Int32) - 3072 = 26 by decide), if_neg (show ¬ (3102 : Int32) - 3072 = 28 by decide), if_pos (show (3102 : Int32) - 3072 = 30 by decide), if_neg (show ¬ (3102 : Int32) - 3072 = 33 by decide), if_neg (show ¬ (3102 : Int32) - 3072 = 34 by decide), if_neg (show ¬ (3102 : Int32) - 3072 = 36 by decide), if_neg (show ¬ (3102 : Int32) - 3072 = 38 by decide), if_neg (show ¬ (3102 : Int32) = 3073 by decide), if_neg (show ¬ (3102 : Int32) = 3074 by decide), if_neg (show ¬ (3102 : Int32) = 3096 by decide), if_neg (show ¬ (3102 : Int32) = 3097 by decide), if_neg (show ¬ (3102 : Int32) = 3098 by decide), if_neg (show ¬ (3102 : Int32) = 3100 by decide), if_pos (show (3102 : Int32) = 3102 by decide), if_neg (show ¬ (3102 : Int32) = 3105 by decide), if_neg (show ¬ (3102 : Int32) = 3106 by decide), if_neg (show ¬ (3102 : Int32) = 3108 by decide), if_neg (show ¬ (3102 : Int32) = 3110 by decide)]
    exact sim_adv (h.s0 (v := g 13) h.e13 h.v8.w)
  by_cases c3105 : w = 3105
  · subst c3105
    simp only [if_neg (show ¬ (3105 : Int32) - 3072 = 1 by decide), if_neg (show ¬ (3105 : Int32) - 3072 = 2 by decide), if_neg (show ¬ (3105 : Int32) - 3072 = 24 by decide), if_neg (show ¬ (3105 : Int32) - 3072 = 25 by decide), if_neg (show ¬ (3105 : Int32) - 3072 = 26 by decide), if_neg (show ¬ (3105 : Int32) - 3072 = 28 by decide), if_neg (show ¬ (3105 : Int32) - 3072 = 30 by decide), if_pos (show (3105 : Int32) - 3072 = 33 by decide), if_neg (show ¬ (3105 : Int32) - 3072 = 34 by decide), if_neg (show ¬ (3105 : Int32) - 3072 = 36 by decide), if_neg (show ¬ (3105 : Int32) - 3072 = 38 by decide), if_neg (show ¬ (3105 : Int32) = 3073 by decide), if_neg (show ¬ (3105 : Int32) = 3074 by decide), if_neg (show ¬ (3105 : Int32) = 3096 by decide), if_neg (show ¬ (3105 : Int32) = 3097 by decide), if_neg (show ¬ (3105 : Int32) = 3098 by decide), if_neg (show ¬ (3105 : Int32) = 3100 by decide), if_neg (show ¬ (3105 : Int32) = 3102 by decide), if_pos (show (3105 : Int32) = 3105 by decide), if_neg (show ¬ (3105 : Int32) = 3106 by decide), if_neg (show ¬ (3105 : Int32) = 3108 by decide), if_neg (show ¬ (3105 : Int32) = 3110 by decide)]
    by_cases cc : n 1 9 = 1
    · simp only [if_pos cc]
      exact sim_skip h (by rw [h.e8, cc]; decide)
    · simp only [if_neg cc]
      rw [skip_0 (h.e8.trans (h.v9.resolve_right cc))]
      exact h
  by_cases c3106 : w = 3106
  · subst c3106
    simp only [if_neg (show ¬ (3106 : Int32) - 3072 = 1 by decide), if_neg (show ¬ (3106 : Int32) - 3072 = 2 by decide), if_neg (show ¬ (3106 : Int32) - 3072 = 24 by decide), if_neg (show ¬ (3106 : Int32) - 3072 = 25 by decide), if_neg (show ¬ (3106 : Int32) - 3072 = 26 by decide), if_neg (show ¬ (3106 : Int32) - 3072 = 28 by decide), if_neg (show ¬ (3106 : Int32) - 3072 = 30 by decide), if_neg (show ¬ (3106 : Int32) - 3072 = 33 by decide), if_pos (show (3106 : Int32) - 3072 = 34 by decide), if_neg (show ¬ (3106 : Int32) - 3072 = 36 by decide), if_neg (show ¬ (3106 : Int32) - 3072 = 38 by decide), if_neg (show ¬ (3106 : Int32) = 3073 by decide), if_neg (show ¬ (3106 : Int32) = 3074 by decide), if_neg (show ¬ (3106 : Int32) = 3096 by decide), if_neg (show ¬ (3106 : Int32) = 3097 by decide), if_neg (show ¬ (3106 : Int32) = 3098 by decide), if_neg (show ¬ (3106 : Int32) = 3100 by decide), if_neg (show ¬ (3106 : Int32) = 3102 by decide), if_neg (show ¬ (3106 : Int32) = 3105 by decide), if_pos (show (3106 : Int32) = 3106 by decide), if_neg (show ¬ (3106 : Int32) = 3108 by decide), if_neg (show ¬ (3106 : Int32) = 3110 by decide)]
    exact h.s8 rfl (Or.inl rfl)
  by_cases c3108 : w = 3108
  · subst c3108
    simp only [if_neg (show ¬ (3108 : Int32) - 3072 = 1 by decide), if_neg (show ¬ (3108 : Int32) - 3072 = 2 by decide), if_neg (show ¬ (3108 : Int32) - 3072 = 24 by decide), if_neg (show ¬ (3108 : Int32) - 3072 = 25 by decide), if_neg (show ¬ (3108 : Int32) - 3072 = 26 by decide), if_neg (show ¬ (3108 : Int32) - 3072 = 28 by decide), if_neg (show ¬ (3108 : Int32) - 3072 = 30 by decide), if_neg (show ¬ (3108 : Int32) - 3072 = 33 by decide), if_neg (show ¬ (3108 : Int32) - 3072 = 34 by decide), if_pos (show (3108 : Int32) - 3072 = 36 by decide), if_neg (show ¬ (3108 : Int32) - 3072 = 38 by decide), if_neg (show ¬ (3108 : Int32) = 3073 by decide), if_neg (show ¬ (3108 : Int32) = 3074 by decide), if_neg (show ¬ (3108 : Int32) = 3096 by decide), if_neg (show ¬ (3108 : Int32) = 3097 by decide), if_neg (show ¬ (3108 : Int32) = 3098 by decide), if_neg (show ¬ (3108 : Int32) = 3100 by decide), if_neg (show ¬ (3108 : Int32) = 3102 by decide), if_neg (show ¬ (3108 : Int32) = 3105 by decide), if_neg (show ¬ (3108 : Int32) = 3106 by decide), if_pos (show (3108 : Int32) = 3108 by decide), if_neg (show ¬ (3108 : Int32) = 3110 by decide)]
    obtain ⟨k, hk, ek⟩ := h.v0
    have ex : g 0 &&& 255 = n 1 0 - n 1 0 / 256 * 256 := by
      rw [h.e0, ek]
      exact prN k hk
    rw [bx_uu, ex]
    exact (h.pr (n 1 0 - n 1 0 / 256 * 256)).s8 rfl (Or.inr rfl)
  by_cases c3110 : w = 3110
  · subst c3110
    simp only [if_neg (show ¬ (3110 : Int32) - 3072 = 1 by decide), if_neg (show ¬ (3110 : Int32) - 3072 = 2 by decide), if_neg (show ¬ (3110 : Int32) - 3072 = 24 by decide), if_neg (show ¬ (3110 : Int32) - 3072 = 25 by decide), if_neg (show ¬ (3110 : Int32) - 3072 = 26 by decide), if_neg (show ¬ (3110 : Int32) - 3072 = 28 by decide), if_neg (show ¬ (3110 : Int32) - 3072 = 30 by decide), if_neg (show ¬ (3110 : Int32) - 3072 = 33 by decide), if_neg (show ¬ (3110 : Int32) - 3072 = 34 by decide), if_neg (show ¬ (3110 : Int32) - 3072 = 36 by decide), if_pos (show (3110 : Int32) - 3072 = 38 by decide), if_neg (show ¬ (3110 : Int32) = 3073 by decide), if_neg (show ¬ (3110 : Int32) = 3074 by decide), if_neg (show ¬ (3110 : Int32) = 3096 by decide), if_neg (show ¬ (3110 : Int32) = 3097 by decide), if_neg (show ¬ (3110 : Int32) = 3098 by decide), if_neg (show ¬ (3110 : Int32) = 3100 by decide), if_neg (show ¬ (3110 : Int32) = 3102 by decide), if_neg (show ¬ (3110 : Int32) = 3105 by decide), if_neg (show ¬ (3110 : Int32) = 3106 by decide), if_neg (show ¬ (3110 : Int32) = 3108 by decide), if_pos (show (3110 : Int32) = 3110 by decide)]
    obtain ⟨k, hk, ek⟩ := h.v0
    have ex : g 0 &&& 255 = n 1 0 - n 1 0 / 256 * 256 := by
      rw [h.e0, ek]
      exact prN k hk
    rw [bx_uu, ex]
    exact (h.pr (n 1 0 - n 1 0 / 256 * 256)).s8 rfl (Or.inr rfl)
  simp only [if_neg c3073, if_neg c3074, if_neg c3096, if_neg c3097, if_neg c3098, if_neg c3100, if_neg c3102, if_neg c3105, if_neg c3106, if_neg c3108, if_neg c3110, if_neg (dv_ne (d := 1) (v := 3073) (by decide) c3073), if_neg (dv_ne (d := 2) (v := 3074) (by decide) c3074), if_neg (dv_ne (d := 24) (v := 3096) (by decide) c3096), if_neg (dv_ne (d := 25) (v := 3097) (by decide) c3097), if_neg (dv_ne (d := 26) (v := 3098) (by decide) c3098), if_neg (dv_ne (d := 28) (v := 3100) (by decide) c3100), if_neg (dv_ne (d := 30) (v := 3102) (by decide) c3102), if_neg (dv_ne (d := 33) (v := 3105) (by decide) c3105), if_neg (dv_ne (d := 34) (v := 3106) (by decide) c3106), if_neg (dv_ne (d := 36) (v := 3108) (by decide) c3108), if_neg (dv_ne (d := 38) (v := 3110) (by decide) c3110)]
  exact h
end SIMB
