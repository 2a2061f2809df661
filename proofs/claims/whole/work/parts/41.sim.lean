/-! the class beside the reference: one state, told twice -/
def RG (g f r : Nat → Int32) : Prop := g 0 = r 0 ∧ g 1 = r 1 ∧ g 2 = r 2 ∧ g 3 = r 3 ∧ g 4 = r 4 ∧ g 5 = r 10 ∧ g 6 = r 5 ∧ g 7 = r 6 ∧ g 8 = r 9 ∧ g 13 = r 8 ∧ g 14 = r 7 ∧ g 9 = f 4 ∧ g 10 = f 5 ∧ g 11 = f 0 ∧ g 12 = f 1 ∧ g 15 = f 2 ∧ g 16 = f 3
def RV (r : Nat → Int32) : Prop := w12 (r 0) ∧ b1 (r 1) ∧ w12 (r 2) ∧ w12 (r 3) ∧ w12 (r 4) ∧ b1 (r 5) ∧ b1 (r 6) ∧ b1 (r 7) ∧ w8 (r 8) ∧ b1 (r 9) ∧ b1 (r 10)
def RT (f : Nat → Int32) : Prop := ∃ a b : Nat, a ≤ b ∧ b ≤ 400 ∧ f 1 = nI a ∧ f 0 = nI b
def ring (c : Int32) (row out : Nat → Int32) : Prop := ∀ k, k < 64 → out k = row ((c.toBitVec.toNat + (63 - k)) % 64)
def RR (g : Nat → Int32) (mm : Nat → Nat → Int32) (f : Nat → Int32) (n : Nat → Nat → Int32) : Prop := RG g f (n 1) ∧ RV (n 1) ∧ RT f ∧ mm 0 = n 0 ∧ (∀ j, w12 (n 0 j)) ∧ mm 1 = n 2 ∧ (∀ j, w8 (n 2 j)) ∧ ring (g 15) (mm 2) (n 3) ∧ ring (g 16) (mm 3) (n 4)
section RRS
variable {g f : Nat → Int32} {mm n : Nat → Nat → Int32} {v vv : Int32}
theorem RR.e0 (h : RR g mm f n) : g 0 = n 1 0 := h.1.1
theorem RR.e1 (h : RR g mm f n) : g 1 = n 1 1 := h.1.2.1
theorem RR.e2 (h : RR g mm f n) : g 2 = n 1 2 := h.1.2.2.1
theorem RR.e3 (h : RR g mm f n) : g 3 = n 1 3 := h.1.2.2.2.1
theorem RR.e4 (h : RR g mm f n) : g 4 = n 1 4 := h.1.2.2.2.2.1
theorem RR.e5 (h : RR g mm f n) : g 5 = n 1 10 := h.1.2.2.2.2.2.1
theorem RR.e6 (h : RR g mm f n) : g 6 = n 1 5 := h.1.2.2.2.2.2.2.1
theorem RR.e7 (h : RR g mm f n) : g 7 = n 1 6 := h.1.2.2.2.2.2.2.2.1
theorem RR.e8 (h : RR g mm f n) : g 8 = n 1 9 := h.1.2.2.2.2.2.2.2.2.1
theorem RR.e13 (h : RR g mm f n) : g 13 = n 1 8 := h.1.2.2.2.2.2.2.2.2.2.1
theorem RR.e14 (h : RR g mm f n) : g 14 = n 1 7 := h.1.2.2.2.2.2.2.2.2.2.2.1
theorem RR.e9 (h : RR g mm f n) : g 9 = f 4 := h.1.2.2.2.2.2.2.2.2.2.2.2.1
theorem RR.e10 (h : RR g mm f n) : g 10 = f 5 := h.1.2.2.2.2.2.2.2.2.2.2.2.2.1
theorem RR.e11 (h : RR g mm f n) : g 11 = f 0 := h.1.2.2.2.2.2.2.2.2.2.2.2.2.2.1
theorem RR.e12 (h : RR g mm f n) : g 12 = f 1 := h.1.2.2.2.2.2.2.2.2.2.2.2.2.2.2.1
theorem RR.e15 (h : RR g mm f n) : g 15 = f 2 := h.1.2.2.2.2.2.2.2.2.2.2.2.2.2.2.2.1
theorem RR.e16 (h : RR g mm f n) : g 16 = f 3 := h.1.2.2.2.2.2.2.2.2.2.2.2.2.2.2.2.2
theorem RR.v0 (h : RR g mm f n) : w12 (n 1 0) := h.2.1.1
theorem RR.v1 (h : RR g mm f n) : b1 (n 1 1) := h.2.1.2.1
theorem RR.v2 (h : RR g mm f n) : w12 (n 1 2) := h.2.1.2.2.1
theorem RR.v3 (h : RR g mm f n) : w12 (n 1 3) := h.2.1.2.2.2.1
theorem RR.v4 (h : RR g mm f n) : w12 (n 1 4) := h.2.1.2.2.2.2.1
theorem RR.v5 (h : RR g mm f n) : b1 (n 1 5) := h.2.1.2.2.2.2.2.1
theorem RR.v6 (h : RR g mm f n) : b1 (n 1 6) := h.2.1.2.2.2.2.2.2.1
theorem RR.v7 (h : RR g mm f n) : b1 (n 1 7) := h.2.1.2.2.2.2.2.2.2.1
theorem RR.v8 (h : RR g mm f n) : w8 (n 1 8) := h.2.1.2.2.2.2.2.2.2.2.1
theorem RR.v9 (h : RR g mm f n) : b1 (n 1 9) := h.2.1.2.2.2.2.2.2.2.2.2.1
theorem RR.v10 (h : RR g mm f n) : b1 (n 1 10) := h.2.1.2.2.2.2.2.2.2.2.2.2
theorem RR.rt (h : RR g mm f n) : RT f := h.2.2.1
theorem RR.c0 (h : RR g mm f n) : mm 0 = n 0 := h.2.2.2.1
theorem RR.cw (h : RR g mm f n) (j : Nat) : w12 (n 0 j) := h.2.2.2.2.1 j
theorem RR.t0 (h : RR g mm f n) : mm 1 = n 2 := h.2.2.2.2.2.1
theorem RR.tw (h : RR g mm f n) (j : Nat) : w8 (n 2 j) := h.2.2.2.2.2.2.1 j
theorem RR.r15 (h : RR g mm f n) : ring (g 15) (mm 2) (n 3) := h.2.2.2.2.2.2.2.1
theorem RR.r16 (h : RR g mm f n) : ring (g 16) (mm 3) (n 4) := h.2.2.2.2.2.2.2.2
theorem RR.s0 (h : RR g mm f n) (e : v = vv) (hv : w12 vv) : RR (upd g 0 v) mm f (va_up n 1 (upd (n 1) 0 vv)) := by
  subst e
  obtain ⟨⟨h0, h1, h2, h3, h4, h5, h6, h7, h8, h13, h14, h9, h10, h11, h12, h15, h16⟩, ⟨v0, v1, v2, v3, v4, v5, v6, v7, v8, v9, v10⟩, ht, hc, hw, htp, ht8, hr1, hr2⟩ := h
  exact ⟨⟨rfl, h1, h2, h3, h4, h5, h6, h7, h8, h13, h14, h9, h10, h11, h12, h15, h16⟩, ⟨hv, v1, v2, v3, v4, v5, v6, v7, v8, v9, v10⟩, ht, hc, hw, htp, ht8, hr1, hr2⟩
theorem RR.s1 (h : RR g mm f n) (e : v = vv) (hv : b1 vv) : RR (upd g 1 v) mm f (va_up n 1 (upd (n 1) 1 vv)) := by
  subst e
  obtain ⟨⟨h0, h1, h2, h3, h4, h5, h6, h7, h8, h13, h14, h9, h10, h11, h12, h15, h16⟩, ⟨v0, v1, v2, v3, v4, v5, v6, v7, v8, v9, v10⟩, ht, hc, hw, htp, ht8, hr1, hr2⟩ := h
  exact ⟨⟨h0, rfl, h2, h3, h4, h5, h6, h7, h8, h13, h14, h9, h10, h11, h12, h15, h16⟩, ⟨v0, hv, v2, v3, v4, v5, v6, v7, v8, v9, v10⟩, ht, hc, hw, htp, ht8, hr1, hr2⟩
theorem RR.s2 (h : RR g mm f n) (e : v = vv) (hv : w12 vv) : RR (upd g 2 v) mm f (va_up n 1 (upd (n 1) 2 vv)) := by
  subst e
  obtain ⟨⟨h0, h1, h2, h3, h4, h5, h6, h7, h8, h13, h14, h9, h10, h11, h12, h15, h16⟩, ⟨v0, v1, v2, v3, v4, v5, v6, v7, v8, v9, v10⟩, ht, hc, hw, htp, ht8, hr1, hr2⟩ := h
  exact ⟨⟨h0, h1, rfl, h3, h4, h5, h6, h7, h8, h13, h14, h9, h10, h11, h12, h15, h16⟩, ⟨v0, v1, hv, v3, v4, v5, v6, v7, v8, v9, v10⟩, ht, hc, hw, htp, ht8, hr1, hr2⟩
theorem RR.s3 (h : RR g mm f n) (e : v = vv) (hv : w12 vv) : RR (upd g 3 v) mm f (va_up n 1 (upd (n 1) 3 vv)) := by
  subst e
  obtain ⟨⟨h0, h1, h2, h3, h4, h5, h6, h7, h8, h13, h14, h9, h10, h11, h12, h15, h16⟩, ⟨v0, v1, v2, v3, v4, v5, v6, v7, v8, v9, v10⟩, ht, hc, hw, htp, ht8, hr1, hr2⟩ := h
  exact ⟨⟨h0, h1, h2, rfl, h4, h5, h6, h7, h8, h13, h14, h9, h10, h11, h12, h15, h16⟩, ⟨v0, v1, v2, hv, v4, v5, v6, v7, v8, v9, v10⟩, ht, hc, hw, htp, ht8, hr1, hr2⟩
theorem RR.s4 (h : RR g mm f n) (e : v = vv) (hv : w12 vv) : RR (upd g 4 v) mm f (va_up n 1 (upd (n 1) 4 vv)) := by
  subst e
  obtain ⟨⟨h0, h1, h2, h3, h4, h5, h6, h7, h8, h13, h14, h9, h10, h11, h12, h15, h16⟩, ⟨v0, v1, v2, v3, v4, v5, v6, v7, v8, v9, v10⟩, ht, hc, hw, htp, ht8, hr1, hr2⟩ := h
  exact ⟨⟨h0, h1, h2, h3, rfl, h5, h6, h7, h8, h13, h14, h9, h10, h11, h12, h15, h16⟩, ⟨v0, v1, v2, v3, hv, v5, v6, v7, v8, v9, v10⟩, ht, hc, hw, htp, ht8, hr1, hr2⟩
theorem RR.s5 (h : RR g mm f n) (e : v = vv) (hv : b1 vv) : RR (upd g 5 v) mm f (va_up n 1 (upd (n 1) 10 vv)) := by
  subst e
  obtain ⟨⟨h0, h1, h2, h3, h4, h5, h6, h7, h8, h13, h14, h9, h10, h11, h12, h15, h16⟩, ⟨v0, v1, v2, v3, v4, v5, v6, v7, v8, v9, v10⟩, ht, hc, hw, htp, ht8, hr1, hr2⟩ := h
  exact ⟨⟨h0, h1, h2, h3, h4, rfl, h6, h7, h8, h13, h14, h9, h10, h11, h12, h15, h16⟩, ⟨v0, v1, v2, v3, v4, v5, v6, v7, v8, v9, hv⟩, ht, hc, hw, htp, ht8, hr1, hr2⟩
theorem RR.s6 (h : RR g mm f n) (e : v = vv) (hv : b1 vv) : RR (upd g 6 v) mm f (va_up n 1 (upd (n 1) 5 vv)) := by
  subst e
  obtain ⟨⟨h0, h1, h2, h3, h4, h5, h6, h7, h8, h13, h14, h9, h10, h11, h12, h15, h16⟩, ⟨v0, v1, v2, v3, v4, v5, v6, v7, v8, v9, v10⟩, ht, hc, hw, htp, ht8, hr1, hr2⟩ := h
  exact ⟨⟨h0, h1, h2, h3, h4, h5, rfl, h7, h8, h13, h14, h9, h10, h11, h12, h15, h16⟩, ⟨v0, v1, v2, v3, v4, hv, v6, v7, v8, v9, v10⟩, ht, hc, hw, htp, ht8, hr1, hr2⟩
theorem RR.s7 (h : RR g mm f n) (e : v = vv) (hv : b1 vv) : RR (upd g 7 v) mm f (va_up n 1 (upd (n 1) 6 vv)) := by
  subst e
  obtain ⟨⟨h0, h1, h2, h3, h4, h5, h6, h7, h8, h13, h14, h9, h10, h11, h12, h15, h16⟩, ⟨v0, v1, v2, v3, v4, v5, v6, v7, v8, v9, v10⟩, ht, hc, hw, htp, ht8, hr1, hr2⟩ := h
  exact ⟨⟨h0, h1, h2, h3, h4, h5, h6, rfl, h8, h13, h14, h9, h10, h11, h12, h15, h16⟩, ⟨v0, v1, v2, v3, v4, v5, hv, v7, v8, v9, v10⟩, ht, hc, hw, htp, ht8, hr1, hr2⟩
theorem RR.s8 (h : RR g mm f n) (e : v = vv) (hv : b1 vv) : RR (upd g 8 v) mm f (va_up n 1 (upd (n 1) 9 vv)) := by
  subst e
  obtain ⟨⟨h0, h1, h2, h3, h4, h5, h6, h7, h8, h13, h14, h9, h10, h11, h12, h15, h16⟩, ⟨v0, v1, v2, v3, v4, v5, v6, v7, v8, v9, v10⟩, ht, hc, hw, htp, ht8, hr1, hr2⟩ := h
  exact ⟨⟨h0, h1, h2, h3, h4, h5, h6, h7, rfl, h13, h14, h9, h10, h11, h12, h15, h16⟩, ⟨v0, v1, v2, v3, v4, v5, v6, v7, v8, hv, v10⟩, ht, hc, hw, htp, ht8, hr1, hr2⟩
theorem RR.s13 (h : RR g mm f n) (e : v = vv) (hv : w8 vv) : RR (upd g 13 v) mm f (va_up n 1 (upd (n 1) 8 vv)) := by
  subst e
  obtain ⟨⟨h0, h1, h2, h3, h4, h5, h6, h7, h8, h13, h14, h9, h10, h11, h12, h15, h16⟩, ⟨v0, v1, v2, v3, v4, v5, v6, v7, v8, v9, v10⟩, ht, hc, hw, htp, ht8, hr1, hr2⟩ := h
  exact ⟨⟨h0, h1, h2, h3, h4, h5, h6, h7, h8, rfl, h14, h9, h10, h11, h12, h15, h16⟩, ⟨v0, v1, v2, v3, v4, v5, v6, v7, hv, v9, v10⟩, ht, hc, hw, htp, ht8, hr1, hr2⟩
theorem RR.s14 (h : RR g mm f n) (e : v = vv) (hv : b1 vv) : RR (upd g 14 v) mm f (va_up n 1 (upd (n 1) 7 vv)) := by
  subst e
  obtain ⟨⟨h0, h1, h2, h3, h4, h5, h6, h7, h8, h13, h14, h9, h10, h11, h12, h15, h16⟩, ⟨v0, v1, v2, v3, v4, v5, v6, v7, v8, v9, v10⟩, ht, hc, hw, htp, ht8, hr1, hr2⟩ := h
  exact ⟨⟨h0, h1, h2, h3, h4, h5, h6, h7, h8, h13, rfl, h9, h10, h11, h12, h15, h16⟩, ⟨v0, v1, v2, v3, v4, v5, v6, hv, v8, v9, v10⟩, ht, hc, hw, htp, ht8, hr1, hr2⟩
theorem RR.i9 (h : RR g mm f n) (e : v = vv) : RR (upd g 9 v) mm (upd f 4 vv) n := by
  subst e
  obtain ⟨⟨h0, h1, h2, h3, h4, h5, h6, h7, h8, h13, h14, h9, h10, h11, h12, h15, h16⟩, ⟨v0, v1, v2, v3, v4, v5, v6, v7, v8, v9, v10⟩, ht, hc, hw, htp, ht8, hr1, hr2⟩ := h
  exact ⟨⟨h0, h1, h2, h3, h4, h5, h6, h7, h8, h13, h14, rfl, h10, h11, h12, h15, h16⟩, ⟨v0, v1, v2, v3, v4, v5, v6, v7, v8, v9, v10⟩, ht, hc, hw, htp, ht8, hr1, hr2⟩
theorem RR.i10 (h : RR g mm f n) (e : v = vv) : RR (upd g 10 v) mm (upd f 5 vv) n := by
  subst e
  obtain ⟨⟨h0, h1, h2, h3, h4, h5, h6, h7, h8, h13, h14, h9, h10, h11, h12, h15, h16⟩, ⟨v0, v1, v2, v3, v4, v5, v6, v7, v8, v9, v10⟩, ht, hc, hw, htp, ht8, hr1, hr2⟩ := h
  exact ⟨⟨h0, h1, h2, h3, h4, h5, h6, h7, h8, h13, h14, h9, rfl, h11, h12, h15, h16⟩, ⟨v0, v1, v2, v3, v4, v5, v6, v7, v8, v9, v10⟩, ht, hc, hw, htp, ht8, hr1, hr2⟩
theorem RR.i11 (h : RR g mm f n) (e : v = vv) (hv : RT (upd f 0 vv)) : RR (upd g 11 v) mm (upd f 0 vv) n := by
  subst e
  obtain ⟨⟨h0, h1, h2, h3, h4, h5, h6, h7, h8, h13, h14, h9, h10, h11, h12, h15, h16⟩, ⟨v0, v1, v2, v3, v4, v5, v6, v7, v8, v9, v10⟩, ht, hc, hw, htp, ht8, hr1, hr2⟩ := h
  exact ⟨⟨h0, h1, h2, h3, h4, h5, h6, h7, h8, h13, h14, h9, h10, rfl, h12, h15, h16⟩, ⟨v0, v1, v2, v3, v4, v5, v6, v7, v8, v9, v10⟩, hv, hc, hw, htp, ht8, hr1, hr2⟩
theorem RR.i12 (h : RR g mm f n) (e : v = vv) (hv : RT (upd f 1 vv)) : RR (upd g 12 v) mm (upd f 1 vv) n := by
  subst e
  obtain ⟨⟨h0, h1, h2, h3, h4, h5, h6, h7, h8, h13, h14, h9, h10, h11, h12, h15, h16⟩, ⟨v0, v1, v2, v3, v4, v5, v6, v7, v8, v9, v10⟩, ht, hc, hw, htp, ht8, hr1, hr2⟩ := h
  exact ⟨⟨h0, h1, h2, h3, h4, h5, h6, h7, h8, h13, h14, h9, h10, h11, rfl, h15, h16⟩, ⟨v0, v1, v2, v3, v4, v5, v6, v7, v8, v9, v10⟩, hv, hc, hw, htp, ht8, hr1, hr2⟩
theorem RR.core (h : RR g mm f n) {i : Nat} (e : v = vv) (hv : w12 vv) : RR g (va_up mm 0 (upd (mm 0) i v)) f (va_up n 0 (upd (n 0) i vv)) := by
  subst e
  obtain ⟨⟨h0, h1, h2, h3, h4, h5, h6, h7, h8, h13, h14, h9, h10, h11, h12, h15, h16⟩, ⟨v0, v1, v2, v3, v4, v5, v6, v7, v8, v9, v10⟩, ht, hc, hw, htp, ht8, hr1, hr2⟩ := h
  refine ⟨⟨h0, h1, h2, h3, h4, h5, h6, h7, h8, h13, h14, h9, h10, h11, h12, h15, h16⟩, ⟨v0, v1, v2, v3, v4, v5, v6, v7, v8, v9, v10⟩, ht, ?_, ?_, htp, ht8, hr1, hr2⟩
  · show upd (mm 0) i v = upd (n 0) i v
    rw [hc]
  · intro j
    show w12 (upd (n 0) i v j)
    unfold upd
    split
    · exact hv
    · exact hw j
theorem RR.tape (h : RR g mm f n) {i : Nat} (hv : w8 v) : RR g (va_up mm 1 (upd (mm 1) i v)) f (va_up n 2 (upd (n 2) i v)) := by
  obtain ⟨⟨h0, h1, h2, h3, h4, h5, h6, h7, h8, h13, h14, h9, h10, h11, h12, h15, h16⟩, ⟨v0, v1, v2, v3, v4, v5, v6, v7, v8, v9, v10⟩, ht, hc, hw, htp, ht8, hr1, hr2⟩ := h
  refine ⟨⟨h0, h1, h2, h3, h4, h5, h6, h7, h8, h13, h14, h9, h10, h11, h12, h15, h16⟩, ⟨v0, v1, v2, v3, v4, v5, v6, v7, v8, v9, v10⟩, ht, hc, hw, ?_, ?_, hr1, hr2⟩
  · show upd (mm 1) i v = upd (n 2) i v
    rw [htp]
  · intro j
    show w8 (upd (n 2) i v j)
    unfold upd
    split
    · exact hv
    · exact ht8 j
theorem ix63 (x : Int32) : (x &&& 63).toNatClampNeg = x.toBitVec.toNat % 64 := by
  rw [pk_and x (m := 63) 6 (by decide)]
  exact nI_clamp (by omega)
theorem ixF (c : Int32) {k : Nat} (hk : k < 64) : (((c - 1) - nI k) &&& 63).toNatClampNeg = (c.toBitVec.toNat + (63 - k)) % 64 := by
  rw [ix63, Int32.toBitVec_sub, Int32.toBitVec_sub, BitVec.toNat_sub, BitVec.toNat_sub, pk_tn (show k < 2 ^ 32 by omega), show (1 : Int32).toBitVec.toNat = 1 from rfl]
  have := c.toBitVec.isLt
  omega
theorem ring_add {c x : Int32} {row out : Nat → Int32} (h : ring c row out) : ring (c + 1) (upd row ((c &&& 63).toNatClampNeg) x) (upd (shf out 0) 0 x) := by
  intro k hk
  have hC := c.toBitVec.isLt
  have e1 : (c + 1).toBitVec.toNat = (c.toBitVec.toNat + 1) % 2 ^ 32 := by
    rw [Int32.toBitVec_add, BitVec.toNat_add]
    rfl
  rw [ix63, e1]
  unfold upd
  by_cases h0 : k = 0
  · subst h0
    rw [if_pos rfl, if_pos (by omega)]
  · rw [if_neg h0, if_neg (by omega)]
    unfold shf
    rw [if_pos (by omega), h (k - 1) (by omega)]
    congr 1
    omega
theorem RR.tr (h : RR g mm f n) (x : Int32) : RR (upd g 16 (g 16 + 1)) (va_up mm 3 (upd (mm 3) ((g 16 &&& 63).toNatClampNeg) x)) (upd f 3 (f 3 + 1)) (va_up n 4 (upd (shf (n 4) 0) 0 x)) := by
  obtain ⟨⟨h0, h1, h2, h3, h4, h5, h6, h7, h8, h13, h14, h9, h10, h11, h12, h15, h16⟩, ⟨v0, v1, v2, v3, v4, v5, v6, v7, v8, v9, v10⟩, ht, hc, hw, htp, ht8, hr1, hr2⟩ := h
  refine ⟨⟨h0, h1, h2, h3, h4, h5, h6, h7, h8, h13, h14, h9, h10, h11, h12, h15, ?_⟩, ⟨v0, v1, v2, v3, v4, v5, v6, v7, v8, v9, v10⟩, ht, hc, hw, htp, ht8, hr1, ring_add hr2⟩
  show g 16 + 1 = f 3 + 1
  rw [h16]
theorem RR.pr (h : RR g mm f n) (x : Int32) : RR (upd g 15 (g 15 + 1)) (va_up mm 2 (upd (mm 2) ((g 15 &&& 63).toNatClampNeg) x)) (upd f 2 (f 2 + 1)) (va_up n 3 (upd (shf (n 3) 0) 0 x)) := by
  obtain ⟨⟨h0, h1, h2, h3, h4, h5, h6, h7, h8, h13, h14, h9, h10, h11, h12, h15, h16⟩, ⟨v0, v1, v2, v3, v4, v5, v6, v7, v8, v9, v10⟩, ht, hc, hw, htp, ht8, hr1, hr2⟩ := h
  refine ⟨⟨h0, h1, h2, h3, h4, h5, h6, h7, h8, h13, h14, h9, h10, h11, h12, ?_, h16⟩, ⟨v0, v1, v2, v3, v4, v5, v6, v7, v8, v9, v10⟩, ht, hc, hw, htp, ht8, ring_add hr1, hr2⟩
  show g 15 + 1 = f 2 + 1
  rw [h15]
theorem RR.ga {g2 : Nat → Int32} (h : RR g mm f n) (e : g = g2) : RR g2 mm f n := e ▸ h
theorem RR.na {n2 : Nat → Nat → Int32} (h : RR g mm f n) (e : n = n2) : RR g mm f n2 := e ▸ h
end RRS
