/-! one step, any number of steps, and the calls -/
section SIMC
variable {g f : Nat → Int32} {mm n : Nat → Nat → Int32}
theorem sim_perform {w e : Int32} (h : RR g mm f n) (hw : w12 w) (he : w12 e) : RR (gX2_perform g mm w e) (mX2_perform g mm w e) (uX3_step_j241_g f n e w) (uX3_step_j241_mm f n e w) := by
  show RR (uX2_perform_j78_g g mm w e) (uX2_perform_j78_mm g mm w e) _ _
  unfold uX2_perform_j78_g uX2_perform_j78_mm uX3_step_j241_g uX3_step_j241_mm
  rw [has_256 hw, has_1 hw]
  have hw2 := hw
  obtain ⟨k, hk, ek⟩ := hw2
  have e1 : w >>> ((9 : Int32) &&& 31) = nI (k / 512) := by rw [ek, (cdN k hk).1]; exact (cdN k hk).2
  have e2 : w / 512 = nI (k / 512) := by rw [ek]; exact (cdN k hk).2
  rw [e1, e2]
  by_cases c6 : (6 : Int32) ≤ nI (k / 512)
  · simp only [if_pos c6]
    by_cases c7 : nI (k / 512) = 6
    · simp only [if_pos c7]
      exact sim_device h
    · simp only [if_neg c7]
      by_cases c8 : rX3_has w 256 = 0
      · simp only [if_pos c8]
        exact sim_first h hw
      · simp only [if_neg c8]
        by_cases c9 : rX3_has w 1 = 0
        · simp only [if_pos c9]
          exact sim_second h hw
        · simp only [if_neg c9]
          exact sim_third h hw
  · simp only [if_neg c6]
    obtain ⟨h1, h2, h3⟩ := sim_place h hw he
    rw [h2]
    refine sim_ref h1 h3 ?_
    rcases Nat.lt_or_ge (k / 512) 6 with q | q
    · exact q
    · exact absurd (nI_le (a := 6) q (by omega)) c6
theorem sim_int (h : RR g mm f n) : RR (gX2_interrupt g mm) (mX2_interrupt g mm) (upd f 4 ((f 4) + 1)) (va_up (va_up (va_up n 0 (upd (n 0) 0 (n 1 2))) 1 (upd ((va_up n 0 (upd (n 0) 0 (n 1 2))) 1) 2 1)) 1 (upd ((va_up (va_up n 0 (upd (n 0) 0 (n 1 2))) 1 (upd ((va_up n 0 (upd (n 0) 0 (n 1 2))) 1) 2 1)) 1) 5 0)) := by
  have e : mX2_interrupt g mm = va_up mm 0 (upd (mm 0) 0 (g 2)) := by
    show mX2_putWord g mm 0 (g 2) = _
    rw [put_eq w12_0 (by rw [h.e2]; exact h.v2)]
    rfl
  rw [e]
  have h1 := h.core (i := 0) (v := g 2) h.e2 h.v2
  have h2 := (h1.s2 (v := 1) rfl ⟨1, by decide, rfl⟩).s6 (v := 0) rfl (Or.inl rfl)
  exact h2.i9 (v := ((upd (upd g 2 1) 6 0) 9) + 1) (by show g 9 + 1 = f 4 + 1; rw [h.e9])
theorem sim_s1 (h : RR g mm f n) : RR (uX2_step_j28_g g mm) (uX2_step_j28_mm g mm) (uX3_step_j64_g f n) (uX3_step_j64_mm n) := by
  unfold uX2_step_j28_g uX2_step_j28_mm uX3_step_j64_g uX3_step_j64_mm
  rw [h.e6, h.e14, h.e8]
  have z1 : ¬ (1 : Int32) = 0 := by decide
  have z2 : ¬ (0 : Int32) = 1 := by decide
  rcases h.v5 with c5 | c5
  · rw [c5]
    simp only [if_pos, if_neg z2]
    exact h
  · rcases h.v7 with c7 | c7
    · rcases h.v9 with c9 | c9
      · rw [c5, c7, c9]
        simp only [if_pos, if_neg z1, if_pos (show (0 : Int32) + 0 ≤ 0 by decide)]
        exact h
      · rw [c5, c7, c9]
        simp only [if_pos, if_neg z1, if_neg (show ¬ (0 : Int32) + 1 ≤ 0 by decide)]
        exact sim_int h
    · have c0 : ¬ n 1 7 + n 1 9 ≤ 0 := by
        rcases h.v9 with c9 | c9
        · rw [c7, c9]; decide
        · rw [c7, c9]; decide
      rw [if_neg c0, if_neg c0, c5, c7]
      simp only [if_pos, if_neg z1]
      exact sim_int h
theorem sim_s2 (h : RR g mm f n) : RR (uX2_step_j45_g g) mm f (uX3_step_j90_mm n) := by
  unfold uX2_step_j45_g uX3_step_j90_mm
  rw [h.e7]
  rcases h.v6 with c | c
  · rw [c, if_pos rfl, if_neg (by decide)]
    exact h
  · rw [c, if_neg (by decide), if_pos rfl]
    exact (h.s7 (v := 0) rfl (Or.inl rfl)).s6 (v := 1) rfl (Or.inr rfl)
theorem upd_comm {j k : Nat} {x y : Int32} (h : j ≠ k) : upd (upd g j x) k y = upd (upd g k y) j x := by
  funext i
  unfold upd
  by_cases h1 : i = j
  · rw [if_neg (by omega), if_pos h1, if_pos h1]
  · by_cases h2 : i = k
    · rw [if_pos h2, if_neg h1, if_pos h2]
    · rw [if_neg h2, if_neg h1, if_neg h1, if_neg h2]
theorem sim_s3 (h : RR g mm f n) : RR (upd (upd g 16 (ctX1_add (g 16) (mm 3) (g 2))) 2 (rX2_next (g 2))) (va_up mm 3 (rwX1_add (g 16) (mm 3) (g 2))) (uX3_step_n158_g f) (uX3_step_n158_mm n) := by
  unfold uX3_step_n158_g uX3_step_n158_mm
  rw [bx_uu, upd_comm (j := 16) (k := 2) (by decide), h.e2, nx_eq h.v2]
  exact (h.s2 (v := rX3_after (n 1 2)) rfl (after_w h.v2)).tr (n 1 2)
theorem sim_step (h : RR g mm f n) : RR (gX2_step g mm) (mX2_step g mm) (gX3_step f n) (mX3_step f n) ∧ SOK f n ∧ Cq g := by
  have h2 := sim_s2 (sim_s1 h)
  have h3 := sim_s3 h2
  have ew : rX2_wordAt (uX2_step_j45_g (uX2_step_j28_g g mm)) (uX2_step_j28_mm g mm) (uX2_step_j45_g (uX2_step_j28_g g mm) 2) = sW n := by
    rw [h2.e2, word_eq h2 h2.v2]
    rfl
  have eh : uX2_step_j45_g (uX2_step_j28_g g mm) 2 = sH n := h2.e2
  have hH : w12 (sH n) := h2.v2
  have hW : w12 (sW n) := h2.cw _
  refine ⟨?_, ⟨hH.vin, (addr_eq hW hH).2.vin, (sim_place (g := _) (mm := _) h3 hW hH).2.2.vin, ?_⟩, ?_⟩
  · have h4 := sim_perform h3 hW hH
    have e1 : gX2_step g mm = gX2_perform (upd (upd (uX2_step_j45_g (uX2_step_j28_g g mm)) 16 (ctX1_add (uX2_step_j45_g (uX2_step_j28_g g mm) 16) (uX2_step_j28_mm g mm 3) (uX2_step_j45_g (uX2_step_j28_g g mm) 2))) 2 (rX2_next (uX2_step_j45_g (uX2_step_j28_g g mm) 2))) (va_up (uX2_step_j28_mm g mm) 3 (rwX1_add (uX2_step_j45_g (uX2_step_j28_g g mm) 16) (uX2_step_j28_mm g mm 3) (uX2_step_j45_g (uX2_step_j28_g g mm) 2))) (sW n) (sH n) := by
      rw [← ew, ← eh]
      rfl
    have e2 : mX2_step g mm = mX2_perform (upd (upd (uX2_step_j45_g (uX2_step_j28_g g mm)) 16 (ctX1_add (uX2_step_j45_g (uX2_step_j28_g g mm) 16) (uX2_step_j28_mm g mm 3) (uX2_step_j45_g (uX2_step_j28_g g mm) 2))) 2 (rX2_next (uX2_step_j45_g (uX2_step_j28_g g mm) 2))) (va_up (uX2_step_j28_mm g mm) 3 (rwX1_add (uX2_step_j45_g (uX2_step_j28_g g mm) 16) (uX2_step_j28_mm g mm 3) (uX2_step_j45_g (uX2_step_j28_g g mm) 2))) (sW n) (sH n) := by
      rw [← ew, ← eh]
      rfl
    rw [e1, e2]
    exact h4
  · obtain ⟨a, b, hab, hb, ea, eb⟩ := h3.rt
    intro hne
    have ea' : sG f n 1 = nI a := ea
    have eb' : sG f n 0 = nI b := eb
    rw [ea', eb'] at hne
    rw [ea']
    exact vp_in_nI (by rcases Nat.lt_or_ge a b with q | q; · omega
                       · exact absurd (by rw [show a = b by omega]) hne) (by decide)
  · obtain ⟨a, b, hab, hb, ea, eb⟩ := h.rt
    intro hne
    rw [h.e11, h.e12, ea, eb] at hne
    rw [h.e12, ea]
    exact vp_in_nI (by rcases Nat.lt_or_ge a b with q | q; · omega
                       · exact absurd (nI_le q (by omega)) hne) (by decide)
theorem sim_ok : ∀ (d : Nat) (g : Nat → Int32) (mm : Nat → Nat → Int32) (f : Nat → Int32) (n : Nat → Nat → Int32), RR g mm f n → cOK d g mm ∧ mOK d f n := by
  intro d
  induction d with
  | zero => intro g mm f n _; exact ⟨trivial, trivial⟩
  | succ d ih =>
    intro g mm f n h
    obtain ⟨h1, h2, h3⟩ := sim_step h
    obtain ⟨i1, i2⟩ := ih _ _ _ _ h1
    exact ⟨⟨h3, i1⟩, ⟨h2, i2⟩⟩
theorem sim_runs : ∀ (d : Nat) (g : Nat → Int32) (mm : Nat → Nat → Int32) (f : Nat → Int32) (n : Nat → Nat → Int32), RR g mm f n → (cRun d g mm).1 = (mRun d f n).1 ∧ RR (cRun d g mm).2.1 (cRun d g mm).2.2 (mRun d f n).2.1 (mRun d f n).2.2 := by
  intro d
  induction d with
  | zero => intro g mm f n h; exact ⟨rfl, h⟩
  | succ d ih =>
    intro g mm f n h
    obtain ⟨i1, i2⟩ := ih _ _ _ _ (sim_step h).1
    by_cases c : n 1 10 = 0
    · have e1 : cRun (d + 1) g mm = ((cRun d (gX2_step g mm) (mX2_step g mm)).1 + 1, (cRun d (gX2_step g mm) (mX2_step g mm)).2) := if_pos (h.e5.trans c)
      have e2 : mRun (d + 1) f n = ((mRun d (gX3_step f n) (mX3_step f n)).1 + 1, (mRun d (gX3_step f n) (mX3_step f n)).2) := if_pos c
      rw [e1, e2]
      exact ⟨by show _ + 1 = _ + 1; rw [i1], i2⟩
    · have e1 : cRun (d + 1) g mm = (0, g, mm) := if_neg (fun q => c (h.e5.symm.trans q))
      have e2 : mRun (d + 1) f n = (0, f, n) := if_neg c
      rw [e1, e2]
      exact ⟨rfl, h⟩
theorem sim_run (h : RR g mm f n) (a : Int32) : rX2_run g mm a = rX3_run f n a ∧ RR (gX2_run g mm a) (mX2_run g mm a) (gX3_run f n a) (mX3_run f n a) := by
  obtain ⟨h1, h2⟩ := sim_runs a.toNatClampNeg _ _ _ _ h
  unfold rX2_run rX3_run gX2_run mX2_run gX3_run mX3_run
  by_cases c1 : a < 0
  · simp only [if_pos c1]
    exact ⟨trivial, h⟩
  · by_cases c2 : a ≤ 2000
    · simp only [if_neg c1, if_pos c2]
      exact ⟨by rw [h1], h2⟩
    · simp only [if_neg c1, if_neg c2]
      exact ⟨trivial, h⟩
theorem va_id {k : Nat} {x : Nat → Int32} (h : x = mm k) : va_up mm k x = mm := by
  funext j
  unfold va_up
  split
  · rename_i e
    rw [e, h]
  · rfl
theorem sim_feed (h : RR g mm f n) (a : Int32) : rX2_feed g mm a = rX3_feed f n a ∧ RR (gX2_feed g mm a) (mX2_feed g mm a) (gX3_feed f n a) (mX3_feed f n a) ∧ ¬ g 11 < 0 ∧ (¬ f 0 = 400 → vp_in (f 0) 400) := by
  obtain ⟨p, b, hab, hb, ea, eb⟩ := h.rt
  have e11 : g 11 = nI b := h.e11.trans eb
  have hq : ¬ f 0 = 400 → b < 400 := fun q => by
    rcases Nat.lt_or_ge b 400 with z | z
    · exact z
    · exact absurd (by rw [eb, show b = 400 by omega]; rfl) q
  refine ⟨?_, ?_, by rw [e11]; exact nI_pos (by omega), fun q => by rw [eb]; exact vp_in_nI (hq q) (by decide)⟩
  · unfold rX2_feed rX0_append rX3_feed
    by_cases c1 : a < 0
    · simp only [if_pos c1]
    · by_cases c2 : 255 < a
      · simp only [if_neg c1, if_pos c2]
      · simp only [if_neg c1, if_neg c2]
        by_cases c3 : f 0 = 400
        · rw [if_pos c3, if_neg (by rw [h.e11, c3]; decide)]
        · rw [if_neg c3, if_pos (by rw [e11]; exact nI_lt (b := 400) (hq c3) (by decide))]
  · unfold gX2_feed mX2_feed fdX0_append tpX0_append gX3_feed mX3_feed
    by_cases c1 : a < 0
    · simp only [if_pos c1]
      rw [upd_id (k := 11) rfl, va_id (k := 1) rfl]
      exact h
    · by_cases c2 : 255 < a
      · simp only [if_neg c1, if_pos c2]
        rw [upd_id (k := 11) rfl, va_id (k := 1) rfl]
        exact h
      · simp only [if_neg c1, if_neg c2]
        by_cases c3 : f 0 = 400
        · have c4 : ¬ g 11 < 400 := by rw [h.e11, c3]; decide
          simp only [if_pos c3, if_neg c4]
          rw [upd_id (k := 11) rfl, va_id (k := 1) rfl]
          exact h
        · have c4 : g 11 < 400 := by rw [e11]; exact nI_lt (b := 400) (hq c3) (by decide)
          simp only [if_neg c3, if_pos c4]
          have h1 := h.i11 (v := g 11 + 1) (vv := f 0 + 1) (by rw [h.e11]) ⟨p, b + 1, by omega, by have := hq c3; omega, ea, by show f 0 + 1 = _; rw [eb]; exact nI_1 b⟩
          obtain ⟨k, hk, ek⟩ := nI_of2 (M := 255) (n := 255) (by decide) c1 (Int32.not_lt.mp c2)
          rw [h.e11]
          rw [h.e11] at h1
          exact h1.tape ⟨k, by omega, ek⟩
theorem sim_waiting (h : RR g mm f n) : rX2_waiting g mm = rX3_waiting f n := by
  show g 11 - g 12 = f 0 - f 1
  rw [h.e11, h.e12]
theorem isA {a : Int32} : (¬ a < 0 ∧ a ≤ 4095 → rX2_isAddress a = 1 ∧ w12 a) ∧ (a < 0 ∨ ¬ a ≤ 4095 → rX2_isAddress a = 0) := by
  have e : rX2_isAddress a = if a < 0 then 0 else if 4096 ≤ a then 0 else 1 := rfl
  have q : (4096 : Int32) ≤ a ↔ ¬ a ≤ 4095 := by
    rw [Int32.le_iff_toInt_le, Int32.le_iff_toInt_le, show (4096 : Int32).toInt = 4096 from rfl, show (4095 : Int32).toInt = 4095 from rfl]
    omega
  refine ⟨fun ⟨h1, h2⟩ => ?_, fun h => ?_⟩
  · obtain ⟨k, hk, ek⟩ := nI_of2 (M := 4095) (n := 4095) (by decide) h1 h2
    exact ⟨by rw [e, if_neg h1, if_neg (fun z => q.mp z h2)], k, by omega, ek⟩
  · rw [e]
    by_cases c : a < 0
    · rw [if_pos c]
    · rw [if_neg c, if_pos (q.mpr (h.resolve_left c))]
theorem sim_poke (h : RR g mm f n) (a v : Int32) : rX2_poke g mm a v = rX3_poke f n a v ∧ RR g (mX2_poke g mm a v) f (mX3_poke f n a v) := by
  unfold rX2_poke rX3_poke mX2_poke mX3_poke
  by_cases c1 : a < 0
  · rw [isA.2 (Or.inl c1)]
    simp only [if_pos, if_pos c1]
    exact ⟨trivial, h⟩
  · by_cases c2 : a ≤ 4095
    · obtain ⟨e, w⟩ := isA.1 ⟨c1, c2⟩
      rw [e]
      simp only [if_neg c1, if_pos c2, if_neg (show ¬ (1 : Int32) = 0 by decide)]
      refine ⟨word_eq h w, ?_⟩
      unfold mX2_putWord
      rw [msk w]
      exact h.core rfl (msk_w v)
    · rw [isA.2 (Or.inr c2)]
      simp only [if_pos, if_neg c1, if_neg c2]
      exact ⟨trivial, h⟩
theorem sim_peek (h : RR g mm f n) (a : Int32) : rX2_peek g mm a = rX3_peek f n a := by
  show uX2_peek_j16_s0 g mm a = uX3_peek_j21_s0 n a
  unfold uX2_peek_j16_s0 uX3_peek_j21_s0
  by_cases c1 : a < 0
  · rw [isA.2 (Or.inl c1), if_pos rfl, if_pos c1]
  · by_cases c2 : a ≤ 4095
    · obtain ⟨e, w⟩ := isA.1 ⟨c1, c2⟩
      rw [e, if_neg (by decide), if_neg c1, if_pos c2]
      exact word_eq h w
    · rw [isA.2 (Or.inr c2), if_pos rfl, if_neg c1, if_neg c2]
theorem and1 (v : Int32) : b1 (v &&& 1) := by
  obtain ⟨j, hj, e⟩ := pk_andE v (m := 1) 1 (by decide)
  have : j = 0 ∨ j = 1 := by omega
  rcases this with rfl | rfl
  · exact Or.inl e
  · exact Or.inr e
theorem small {a M : Int32} {m : Nat} (hM : M.toInt = m) (h1 : ¬ a < 0) (h2 : a ≤ M) : ∃ j : Nat, j ≤ m ∧ a = nI j := nI_of2 hM h1 h2
theorem sim_set (h : RR g mm f n) (a v : Int32) : rX2_set g mm a v = rX3_set f n a v ∧ RR (gX2_set g mm a v) mm f (mX3_set f n a v) := by
  have em : mX3_set f n a v = if a < (0 : Int32) then n else (if a ≤ (4 : Int32) then va_up n 1 (upd (n 1) a.toNatClampNeg (uX3_set_j32_s0 a v)) else n) := rfl
  rw [em]
  unfold rX2_set rX3_set gX2_set uX3_set_j32_s0
  by_cases c1 : a < 0
  · have ne : ∀ k : Int32, 0 ≤ k → ¬ a = k := fun k hk q => absurd (q ▸ c1) (Int32.not_lt.mpr hk)
    simp only [if_pos c1, if_neg (ne 0 (by decide)), if_neg (ne 1 (by decide)), if_neg (ne 2 (by decide)), if_neg (ne 3 (by decide)), if_neg (ne 4 (by decide))]
    exact ⟨trivial, h⟩
  · by_cases c2 : a ≤ 4
    · obtain ⟨j, hj, rfl⟩ := small (M := 4) (m := 4) (by decide) c1 c2
      have : j = 0 ∨ j = 1 ∨ j = 2 ∨ j = 3 ∨ j = 4 := by omega
      rcases this with rfl | rfl | rfl | rfl | rfl
      · simp only [if_neg c1, if_pos c2, if_pos (show nI 0 = 0 by decide), if_neg (show ¬ nI 0 = 1 by decide)]
        exact ⟨trivial, h.s0 rfl (msk_w v)⟩
      · simp only [if_neg c1, if_pos c2, if_pos (show nI 1 = 1 by decide), if_neg (show ¬ nI 1 = 0 by decide)]
        exact ⟨trivial, h.s1 rfl (and1 v)⟩
      · simp only [if_neg c1, if_pos c2, if_pos (show nI 2 = 2 by decide), if_neg (show ¬ nI 2 = 0 by decide), if_neg (show ¬ nI 2 = 1 by decide)]
        exact ⟨trivial, h.s2 rfl (msk_w v)⟩
      · simp only [if_neg c1, if_pos c2, if_pos (show nI 3 = 3 by decide), if_neg (show ¬ nI 3 = 0 by decide), if_neg (show ¬ nI 3 = 1 by decide), if_neg (show ¬ nI 3 = 2 by decide)]
        exact ⟨trivial, h.s3 rfl (msk_w v)⟩
      · simp only [if_neg c1, if_pos c2, if_pos (show nI 4 = 4 by decide), if_neg (show ¬ nI 4 = 0 by decide), if_neg (show ¬ nI 4 = 1 by decide), if_neg (show ¬ nI 4 = 2 by decide), if_neg (show ¬ nI 4 = 3 by decide)]
        exact ⟨trivial, h.s4 rfl (msk_w v)⟩
    · have ne : ∀ k : Int32, k ≤ 4 → ¬ a = k := fun k hk q => c2 (q ▸ hk)
      simp only [if_neg c1, if_neg c2, if_neg (ne 0 (by decide)), if_neg (ne 1 (by decide)), if_neg (ne 2 (by decide)), if_neg (ne 3 (by decide)), if_neg (ne 4 (by decide))]
      exact ⟨trivial, h⟩
theorem bit_b {x : Int32} (h : b1 x) : rX2_bit x = x := by
  show (if x = 0 then (0 : Int32) else 1) = x
  rcases h with rfl | rfl <;> decide
theorem sim_register (h : RR g mm f n) (a : Int32) : rX2_register g mm a = rX3_register f n a := by
  show _ = uX3_register_j20_s0 n a
  unfold rX2_register uX3_register_j20_s0
  rw [h.e6, h.e7, h.e14, h.e8, h.e5, bit_b h.v5, bit_b h.v6, bit_b h.v7, bit_b h.v9, bit_b h.v10, h.e0, h.e1, h.e2, h.e3, h.e4, h.e13]
  by_cases c1 : a < 0
  · have ne : ∀ k : Int32, 0 ≤ k → ¬ a = k := fun k hk q => absurd (q ▸ c1) (Int32.not_lt.mpr hk)
    simp only [if_pos c1, if_neg (ne 0 (by decide)), if_neg (ne 1 (by decide)), if_neg (ne 2 (by decide)), if_neg (ne 3 (by decide)), if_neg (ne 4 (by decide)), if_neg (ne 5 (by decide)), if_neg (ne 6 (by decide)), if_neg (ne 7 (by decide)), if_neg (ne 8 (by decide)), if_neg (ne 9 (by decide)), if_neg (ne 10 (by decide))]
  · by_cases c2 : a ≤ 10
    · rw [if_neg c1, if_pos c2]
      obtain ⟨j, hj, rfl⟩ := small (M := 10) (m := 10) (by decide) c1 c2
      rw [nI_clamp (by omega)]
      have : j = 0 ∨ j = 1 ∨ j = 2 ∨ j = 3 ∨ j = 4 ∨ j = 5 ∨ j = 6 ∨ j = 7 ∨ j = 8 ∨ j = 9 ∨ j = 10 := by omega
      rcases this with rfl | rfl | rfl | rfl | rfl | rfl | rfl | rfl | rfl | rfl | rfl <;> rfl
    · have ne : ∀ k : Int32, k ≤ 10 → ¬ a = k := fun k hk q => c2 (q ▸ hk)
      simp only [if_neg c1, if_neg c2, if_neg (ne 0 (by decide)), if_neg (ne 1 (by decide)), if_neg (ne 2 (by decide)), if_neg (ne 3 (by decide)), if_neg (ne 4 (by decide)), if_neg (ne 5 (by decide)), if_neg (ne 6 (by decide)), if_neg (ne 7 (by decide)), if_neg (ne 8 (by decide)), if_neg (ne 9 (by decide)), if_neg (ne 10 (by decide))]
theorem sim_go (h : RR g mm f n) : rX2_go g mm = rX3_go f n ∧ RR (gX2_go g mm) mm f (mX3_go f n) ∧ narrow .boolean (.int (g 5)) = .int (g 5) := by
  refine ⟨?_, h.s5 rfl (Or.inl rfl), ?_⟩
  · show g 5 = if n 1 10 = 1 then 1 else 0
    rw [h.e5]
    rcases h.v10 with e | e <;> rw [e] <;> decide
  · rw [h.e5]
    rcases h.v10 with e | e <;> rw [e] <;> rfl
theorem sim_late {c a : Int32} {row out : Nat → Int32} (h : ring c row out) : rX1_fromLatest c row a = if a < (0 : Int32) then (-1) else (if (63 : Int32) < a then (-1) else (if a < c then out a.toNatClampNeg else (-1))) := by
  unfold rX1_fromLatest
  have q : (64 : Int32) ≤ a ↔ 63 < a := by
    rw [Int32.le_iff_toInt_le, Int32.lt_iff_toInt_lt, show (64 : Int32).toInt = 64 from rfl, show (63 : Int32).toInt = 63 from rfl]
    omega
  by_cases c1 : a < 0
  · rw [if_pos c1, if_pos c1]
  · rw [if_neg c1, if_neg c1]
    by_cases c2 : 63 < a
    · rw [if_pos c2, if_pos (q.mpr c2)]
    · rw [if_neg c2, if_neg (fun z => c2 (q.mp z))]
      by_cases c3 : a < c
      · rw [if_pos c3, if_pos c3]
        obtain ⟨k, hk, rfl⟩ := nI_of2 (M := 63) (n := 63) (by decide) c1 (Int32.not_lt.mp c2)
        rw [ixF c (by omega), nI_clamp (by omega)]
        exact (h k (by omega)).symm
      · rw [if_neg c3, if_neg c3]
theorem sim_printed (h : RR g mm f n) (a : Int32) : rX2_printed g mm a = rX3_printed f n a := by
  show (if a = (-1) then g 15 else rX1_fromLatest (g 15) (mm 2) a) = (if a = (-1) then f 2 else uX3_printed_j38_s0 f n a)
  rw [sim_late h.r15, h.e15]
  rfl
theorem sim_trace (h : RR g mm f n) (a : Int32) : rX2_trace g mm a = rX3_trace f n a := by
  show rX1_fromLatest (g 16) (mm 3) a = uX3_trace_j28_s0 f n a
  rw [sim_late h.r16, h.e16]
  rfl
theorem sim_0 : RR (fun _ => 0) (fun _ _ => 0) (fun _ => 0) (fun _ _ => 0) := by
  refine ⟨⟨rfl, rfl, rfl, rfl, rfl, rfl, rfl, rfl, rfl, rfl, rfl, rfl, rfl, rfl, rfl, rfl, rfl⟩, ⟨w12_0, Or.inl rfl, w12_0, w12_0, w12_0, Or.inl rfl, Or.inl rfl, Or.inl rfl, w8_0, Or.inl rfl, Or.inl rfl⟩, ⟨0, 0, by decide, by decide, rfl, rfl⟩, rfl, fun _ => w12_0, rfl, fun _ => w8_0, fun _ _ => rfl, fun _ _ => rfl⟩
end SIMC
