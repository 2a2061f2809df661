/-! step by step: skip, add, the address, the codes 0 to 5, the second and third groups of code 7 -/
section SIMA
variable {g f : Nat → Int32} {mm n : Nat → Nat → Int32}
theorem skip_0 {b : Int32} (hb : b = 0) : gX2_skipIf g mm b = g := if_pos hb
theorem sim_skip {b : Int32} (h : RR g mm f n) (hb : ¬ b = 0) : RR (gX2_skipIf g mm b) mm (gX3_skip f n) (mX3_skip f n) := by
  have e : gX2_skipIf g mm b = (upd (upd g 2 (rX2_next (g 2))) 10 (((upd g 2 (rX2_next (g 2))) 10) + 1)) := if_neg hb
  rw [e]
  have h1 := h.s2 (v := rX2_next (g 2)) (vv := rX3_after (n 1 2)) (by rw [h.e2]; exact nx_eq h.v2) (after_w h.v2)
  exact h1.i10 (v := ((upd g 2 (rX2_next (g 2))) 10) + 1) (vv := f 5 + 1) (by show g 10 + 1 = f 5 + 1; rw [h.e10])
theorem sim_add {x : Int32} (h : RR g mm f n) (hx : w12 x) : RR (gX2_add g mm x) mm f (mX3_add f n x) := by
  obtain ⟨a, ha, ea⟩ := h.v0
  obtain ⟨b, hb, rfl⟩ := hx
  have e0 : g 0 = nI a := h.e0.trans ea
  show RR (upd (uX2_add_j24_g g (nI b)) 0 ((g 0 + nI b) &&& 4095)) mm f (va_up (uX3_add_j36_mm n (nI b)) 1 (upd ((uX3_add_j36_mm n (nI b)) 1) 0 (uX3_add_j36_l2 n (nI b))))
  have hs := smN (a + b) (by omega)
  unfold uX2_add_j24_g uX3_add_j36_mm uX3_add_j36_l2
  rw [e0, ea, nI_add]
  by_cases c : nI (a + b) ≤ 4095
  · rw [if_pos c, if_pos c, if_pos c]
    exact h.s0 (hs.1 c).1 ⟨a + b, (hs.1 c).2, rfl⟩
  · rw [if_neg c, if_neg c, if_neg c]
    have h1 := h.s1 (v := g 1 ^^^ 1) (vv := 1 - n 1 1) (by rw [h.e1]; exact (xr1 h.v1).1) (xr1 h.v1).2
    exact h1.s0 (hs.2 c).1 ⟨a + b - 4096, by omega, (hs.2 c).2.1⟩
theorem word_eq {x : Int32} (h : RR g mm f n) (hx : w12 x) : rX2_wordAt g mm x = n 0 x.toNatClampNeg := by
  unfold rX2_wordAt
  rw [msk hx, h.c0]
theorem put_eq {x v : Int32} (hx : w12 x) (hv : w12 v) : mX2_putWord g mm x v = va_up mm 0 (upd (mm 0) x.toNatClampNeg v) := by
  unfold mX2_putWord
  rw [msk hx, msk hv]
theorem addr_eq {w e : Int32} (hw : w12 w) (he : w12 e) : uX2_effectiveAddress_j23_l3 w e = uX3_place_j26_l3 w e ∧ w12 (uX3_place_j26_l3 w e) := by
  have hh := has_128 hw
  obtain ⟨a, ha, rfl⟩ := hw
  obtain ⟨b, hb, rfl⟩ := he
  obtain ⟨q1, q2, q3, q4⟩ := adN a ha
  obtain ⟨p1, p2, p3, p4⟩ := adN b hb
  unfold uX2_effectiveAddress_j23_l3 uX3_place_j26_l3
  rw [hh]
  split
  · exact ⟨q1, a % 128, by omega, q2⟩
  · rw [q1, p3]
    refine ⟨rfl, a % 128 + b / 128 * 128, by omega, ?_⟩
    rw [← p3, q2, p4, nI_add]
theorem sim_place {w e : Int32} (h : RR g mm f n) (hw : w12 w) (he : w12 e) : RR g (mX2_effectiveAddress g mm w e) f (mX3_place f n w e) ∧ rX2_effectiveAddress g mm w e = rX3_place f n w e ∧ w12 (rX3_place f n w e) := by
  obtain ⟨ea, wa⟩ := addr_eq hw he
  show RR g (if rX2_has w 256 = 0 then mm else uX2_effectiveAddress_j60_mm g mm (uX2_effectiveAddress_j23_l3 w e)) f (if rX3_has w 256 = 0 then n else uX3_place_j65_mm n (uX3_place_j26_l3 w e)) ∧ (if rX2_has w 256 = 0 then uX2_effectiveAddress_j23_l3 w e else rX2_wordAt g (uX2_effectiveAddress_j60_mm g mm (uX2_effectiveAddress_j23_l3 w e)) (uX2_effectiveAddress_j23_l3 w e)) = (if rX3_has w 256 = 0 then uX3_place_j26_l3 w e else uX3_place_j65_mm n (uX3_place_j26_l3 w e) 0 (uX3_place_j26_l3 w e).toNatClampNeg) ∧ w12 (if rX3_has w 256 = 0 then uX3_place_j26_l3 w e else uX3_place_j65_mm n (uX3_place_j26_l3 w e) 0 (uX3_place_j26_l3 w e).toNatClampNeg)
  rw [has_256 hw, ea]
  generalize uX3_place_j26_l3 w e = A at wa
  by_cases c : rX3_has w 256 = 0
  · simp only [if_pos c]
    exact ⟨h, trivial, wa⟩
  · simp only [if_neg c]
    have h2 : RR g (uX2_effectiveAddress_j60_mm g mm A) f (uX3_place_j65_mm n A) := by
      unfold uX2_effectiveAddress_j60_mm uX3_place_j65_mm
      split
      · exact h
      · split
        · exact h
        · have hv := h.cw A.toNatClampNeg
          rw [word_eq h wa, nx_eq hv, put_eq wa (after_w hv)]
          exact h.core rfl (after_w hv)
    exact ⟨h2, word_eq h2 wa, h2.cw _⟩
theorem sim_ref {e : Int32} {c : Nat} (h : RR g mm f n) (he : w12 e) (hc : c < 6) : RR (gX2_performAddressed g mm (nI c) e) (mX2_performAddressed g mm (nI c) e) (gX3_reference f n (nI c) e) (mX3_reference f n (nI c) e) := by
  have hv := h.cw e.toNatClampNeg
  have ew := word_eq h he
  have hc6 : c = 0 ∨ c = 1 ∨ c = 2 ∨ c = 3 ∨ c = 4 ∨ c = 5 := by omega
  show RR (uX2_performAddressed_j140_g g mm (nI c) e) (uX2_performAddressed_j140_mm g mm (nI c) e) (uX3_reference_j71_g f (nI c) e (uX3_reference_j38_mm f (nI c) e (uX3_reference_j23_mm n (nI c) e))) (uX3_reference_j134_mm (nI c) e (uX3_reference_j122_mm (nI c) e (uX3_reference_j95_mm (nI c) e (uX3_reference_j71_mm f (nI c) e (uX3_reference_j38_mm f (nI c) e (uX3_reference_j23_mm n (nI c) e))))))
  unfold uX2_performAddressed_j140_g uX2_performAddressed_j140_mm uX3_reference_j71_g uX3_reference_j134_mm uX3_reference_j122_mm uX3_reference_j95_mm uX3_reference_j71_mm uX3_reference_j38_mm uX3_reference_j23_mm
  rcases hc6 with rfl | rfl | rfl | rfl | rfl | rfl
  · simp only [if_pos (show nI 0 = 0 by decide), if_neg (show ¬ nI 0 = 1 by decide), if_neg (show ¬ nI 0 = 2 by decide), if_neg (show ¬ nI 0 = 3 by decide), if_neg (show ¬ nI 0 = 4 by decide), if_neg (show ¬ nI 0 = 5 by decide)]
    exact h.s0 (by rw [ew, h.e0]) (h.v0.and hv)
  · simp only [if_pos (show nI 1 = 1 by decide), if_neg (show ¬ nI 1 = 0 by decide), if_neg (show ¬ nI 1 = 2 by decide), if_neg (show ¬ nI 1 = 3 by decide), if_neg (show ¬ nI 1 = 4 by decide), if_neg (show ¬ nI 1 = 5 by decide)]
    rw [ew]
    exact sim_add h hv
  · simp only [if_pos (show nI 2 = 2 by decide), if_neg (show ¬ nI 2 = 0 by decide), if_neg (show ¬ nI 2 = 1 by decide), if_neg (show ¬ nI 2 = 3 by decide), if_neg (show ¬ nI 2 = 4 by decide), if_neg (show ¬ nI 2 = 5 by decide)]
    rw [ew, nx_eq hv, put_eq he (after_w hv)]
    have h1 : RR g (va_up mm 0 (upd (mm 0) e.toNatClampNeg (rX3_after (n 0 e.toNatClampNeg)))) f (va_up n 0 (upd (n 0) e.toNatClampNeg (rX3_after (n 0 e.toNatClampNeg)))) := h.core rfl (after_w hv)
    have e9 : uX2_performAddressed_j92_s0 g mm e = if (va_up n 0 (upd (n 0) e.toNatClampNeg (rX3_after (n 0 e.toNatClampNeg)))) 0 e.toNatClampNeg = 0 then 1 else 0 := by
      unfold uX2_performAddressed_j92_s0
      rw [ew, nx_eq hv, put_eq he (after_w hv), word_eq h1 he]
    rw [e9]
    by_cases cz : (va_up n 0 (upd (n 0) e.toNatClampNeg (rX3_after (n 0 e.toNatClampNeg)))) 0 e.toNatClampNeg = 0
    · simp only [if_pos cz]
      exact sim_skip h1 (by decide)
    · simp only [if_neg cz]
      rw [skip_0 rfl]
      exact h1
  · simp only [if_pos (show nI 3 = 3 by decide), if_neg (show ¬ nI 3 = 0 by decide), if_neg (show ¬ nI 3 = 1 by decide), if_neg (show ¬ nI 3 = 2 by decide), if_neg (show ¬ nI 3 = 4 by decide), if_neg (show ¬ nI 3 = 5 by decide)]
    rw [h.e0, put_eq he h.v0]
    exact (h.core rfl h.v0).s0 rfl w12_0
  · simp only [if_pos (show nI 4 = 4 by decide), if_neg (show ¬ nI 4 = 0 by decide), if_neg (show ¬ nI 4 = 1 by decide), if_neg (show ¬ nI 4 = 2 by decide), if_neg (show ¬ nI 4 = 3 by decide), if_neg (show ¬ nI 4 = 5 by decide)]
    rw [h.e2, put_eq he h.v2, nx_eq he]
    exact (h.core rfl h.v2).s2 rfl (after_w he)
  · simp only [if_pos (show nI 5 = 5 by decide), if_neg (show ¬ nI 5 = 0 by decide), if_neg (show ¬ nI 5 = 1 by decide), if_neg (show ¬ nI 5 = 2 by decide), if_neg (show ¬ nI 5 = 3 by decide), if_neg (show ¬ nI 5 = 4 by decide)]
    exact h.s2 rfl he
theorem sim_second {w : Int32} (h : RR g mm f n) (hw : w12 w) : RR (gX2_testAccumulator g mm w) mm (gX3_second f n w) (mX3_second f n w) := by
  have ec : uX2_testAccumulator_j57_s0 g w = uX3_second_j63_s0 n w := by
    unfold uX2_testAccumulator_j57_s0 uX3_second_j63_s0
    rw [has_64 hw, has_32 hw, has_16 hw, h.e0, h.e1]
  show RR (uX2_testAccumulator_j126_g w (uX2_testAccumulator_j113_g w (uX2_testAccumulator_j92_g g mm w (uX2_testAccumulator_j74_s0 w (uX2_testAccumulator_j57_s0 g w))))) mm (uX3_second_j78_g f n w (uX3_second_j63_s0 n w)) (uX3_second_j138_mm w (uX3_second_j122_mm w (uX3_second_j95_mm w (uX3_second_j78_mm f n w (uX3_second_j63_s0 n w)))))
  rw [ec]
  generalize uX3_second_j63_s0 n w = b
  have h1 : RR (gX2_skipIf g mm (uX2_testAccumulator_j74_s0 w b)) mm (uX3_second_j78_g f n w b) (uX3_second_j78_mm f n w b) := by
    unfold uX2_testAccumulator_j74_s0 uX3_second_j78_g uX3_second_j78_mm
    rw [has_8 hw]
    by_cases cb : b = rX3_has w 8
    · simp only [if_pos cb]
      rw [skip_0 rfl]
      exact h
    · simp only [if_neg cb]
      exact sim_skip h (by decide)
  unfold uX2_testAccumulator_j92_g
  generalize gX2_skipIf g mm (uX2_testAccumulator_j74_s0 w b) = g1 at h1
  generalize uX3_second_j78_g f n w b = f1 at h1
  generalize uX3_second_j78_mm f n w b = n1 at h1
  have h2 : RR (if rX2_has w 128 = 0 then g1 else upd g1 0 0) mm f1 (uX3_second_j95_mm w n1) := by
    unfold uX3_second_j95_mm
    rw [has_128 hw]
    split
    · exact h1
    · exact h1.s0 rfl w12_0
  generalize (if rX2_has w 128 = 0 then g1 else upd g1 0 0) = g2 at h2
  generalize uX3_second_j95_mm w n1 = n2 at h2
  have h3 : RR (uX2_testAccumulator_j113_g w g2) mm f1 (uX3_second_j122_mm w n2) := by
    unfold uX2_testAccumulator_j113_g uX3_second_j122_mm
    rw [has_4 hw]
    split
    · exact h2
    · exact h2.s0 (by rw [h2.e0, h2.e4]) (h2.v0.or h2.v4)
  generalize uX2_testAccumulator_j113_g w g2 = g3 at h3
  generalize uX3_second_j122_mm w n2 = n3 at h3
  unfold uX2_testAccumulator_j126_g uX3_second_j138_mm
  rw [has_2 hw]
  split
  · exact h3
  · exact h3.s5 rfl (Or.inr rfl)
end SIMA
