/-! numbers: words of 12 bits, bytes, bits -/
theorem two {P : Nat → Prop} (n : Nat) (h : ∀ a, a < n → ∀ b, b < 64 → P (64 * a + b)) : ∀ k, k < 64 * n → P k := by
  intro k hk
  have h1 := h (k / 64) (by omega) (k % 64) (by omega)
  rwa [show 64 * (k / 64) + k % 64 = k by omega] at h1
def w12 (x : Int32) : Prop := ∃ k : Nat, k < 4096 ∧ x = nI k
def w8 (x : Int32) : Prop := ∃ k : Nat, k < 256 ∧ x = nI k
def b1 (x : Int32) : Prop := x = 0 ∨ x = 1
theorem w8.w {x : Int32} (h : w8 x) : w12 x := by
  obtain ⟨k, h, e⟩ := h
  exact ⟨k, by omega, e⟩
theorem b1.w {x : Int32} (h : b1 x) : w12 x := by
  rcases h with rfl | rfl
  · exact ⟨0, by decide, rfl⟩
  · exact ⟨1, by decide, rfl⟩
theorem w12_0 : w12 0 := ⟨0, by decide, rfl⟩
theorem w8_0 : w8 0 := ⟨0, by decide, rfl⟩
theorem w12.vin {x : Int32} (h : w12 x) : vp_in x 4096 := by
  obtain ⟨k, h, rfl⟩ := h
  exact vp_in_nI h (by decide)
theorem nI_or (a b : Nat) : nI a ||| nI b = nI (a ||| b) := by
  apply Int32.toBitVec_inj.mp
  show BitVec.ofNat 32 a ||| BitVec.ofNat 32 b = BitVec.ofNat 32 (a ||| b)
  rw [BitVec.ofNat_or]
theorem nI_and (a b : Nat) : nI a &&& nI b = nI (a &&& b) := by
  apply Int32.toBitVec_inj.mp
  show BitVec.ofNat 32 a &&& BitVec.ofNat 32 b = BitVec.ofNat 32 (a &&& b)
  rw [BitVec.ofNat_and]
theorem w12.or {x y : Int32} (hx : w12 x) (hy : w12 y) : w12 (x ||| y) := by
  obtain ⟨a, ha, rfl⟩ := hx
  obtain ⟨b, hb, rfl⟩ := hy
  exact ⟨a ||| b, Nat.or_lt_two_pow (n := 12) ha hb, nI_or a b⟩
theorem w12.and {x y : Int32} (hx : w12 x) (hy : w12 y) : w12 (x &&& y) := by
  obtain ⟨a, ha, rfl⟩ := hx
  obtain ⟨b, hb, rfl⟩ := hy
  exact ⟨a &&& b, Nat.and_lt_two_pow (n := 12) a hb, nI_and a b⟩
theorem hasN_1 : ∀ k, k < 4096 → rX2_has (nI k) 1 = rX3_has (nI k) 1 := two (P := fun k => rX2_has (nI k) 1 = rX3_has (nI k) 1) 64 (by decide +kernel)
theorem has_1 {x : Int32} (h : w12 x) : rX2_has x 1 = rX3_has x 1 := by
  obtain ⟨k, h, rfl⟩ := h
  exact hasN_1 k h
theorem hasN_2 : ∀ k, k < 4096 → rX2_has (nI k) 2 = rX3_has (nI k) 2 := two (P := fun k => rX2_has (nI k) 2 = rX3_has (nI k) 2) 64 (by decide +kernel)
theorem has_2 {x : Int32} (h : w12 x) : rX2_has x 2 = rX3_has x 2 := by
  obtain ⟨k, h, rfl⟩ := h
  exact hasN_2 k h
theorem hasN_4 : ∀ k, k < 4096 → rX2_has (nI k) 4 = rX3_has (nI k) 4 := two (P := fun k => rX2_has (nI k) 4 = rX3_has (nI k) 4) 64 (by decide +kernel)
theorem has_4 {x : Int32} (h : w12 x) : rX2_has x 4 = rX3_has x 4 := by
  obtain ⟨k, h, rfl⟩ := h
  exact hasN_4 k h
theorem hasN_8 : ∀ k, k < 4096 → rX2_has (nI k) 8 = rX3_has (nI k) 8 := two (P := fun k => rX2_has (nI k) 8 = rX3_has (nI k) 8) 64 (by decide +kernel)
theorem has_8 {x : Int32} (h : w12 x) : rX2_has x 8 = rX3_has x 8 := by
  obtain ⟨k, h, rfl⟩ := h
  exact hasN_8 k h
theorem hasN_16 : ∀ k, k < 4096 → rX2_has (nI k) 16 = rX3_has (nI k) 16 := two (P := fun k => rX2_has (nI k) 16 = rX3_has (nI k) 16) 64 (by decide +kernel)
theorem has_16 {x : Int32} (h : w12 x) : rX2_has x 16 = rX3_has x 16 := by
  obtain ⟨k, h, rfl⟩ := h
  exact hasN_16 k h
theorem hasN_32 : ∀ k, k < 4096 → rX2_has (nI k) 32 = rX3_has (nI k) 32 := two (P := fun k => rX2_has (nI k) 32 = rX3_has (nI k) 32) 64 (by decide +kernel)
theorem has_32 {x : Int32} (h : w12 x) : rX2_has x 32 = rX3_has x 32 := by
  obtain ⟨k, h, rfl⟩ := h
  exact hasN_32 k h
theorem hasN_64 : ∀ k, k < 4096 → rX2_has (nI k) 64 = rX3_has (nI k) 64 := two (P := fun k => rX2_has (nI k) 64 = rX3_has (nI k) 64) 64 (by decide +kernel)
theorem has_64 {x : Int32} (h : w12 x) : rX2_has x 64 = rX3_has x 64 := by
  obtain ⟨k, h, rfl⟩ := h
  exact hasN_64 k h
theorem hasN_128 : ∀ k, k < 4096 → rX2_has (nI k) 128 = rX3_has (nI k) 128 := two (P := fun k => rX2_has (nI k) 128 = rX3_has (nI k) 128) 64 (by decide +kernel)
theorem has_128 {x : Int32} (h : w12 x) : rX2_has x 128 = rX3_has x 128 := by
  obtain ⟨k, h, rfl⟩ := h
  exact hasN_128 k h
theorem hasN_256 : ∀ k, k < 4096 → rX2_has (nI k) 256 = rX3_has (nI k) 256 := two (P := fun k => rX2_has (nI k) 256 = rX3_has (nI k) 256) 64 (by decide +kernel)
theorem has_256 {x : Int32} (h : w12 x) : rX2_has x 256 = rX3_has x 256 := by
  obtain ⟨k, h, rfl⟩ := h
  exact hasN_256 k h
theorem nxN : ∀ k, k < 4096 → rX2_next (nI k) = rX3_after (nI k) ∧ rX3_after (nI k) = nI ((k + 1) % 4096) := two (P := fun k => rX2_next (nI k) = rX3_after (nI k) ∧ rX3_after (nI k) = nI ((k + 1) % 4096)) 64 (by decide +kernel)
theorem nx_eq {x : Int32} (h : w12 x) : rX2_next x = rX3_after x := by
  obtain ⟨k, h, rfl⟩ := h
  exact (nxN k h).1
theorem after_w {x : Int32} (h : w12 x) : w12 (rX3_after x) := by
  obtain ⟨k, h, rfl⟩ := h
  exact ⟨_, Nat.mod_lt _ (by decide), (nxN k h).2⟩
theorem mskN : ∀ k, k < 4096 → nI k &&& 4095 = nI k := two (P := fun k => nI k &&& 4095 = nI k) 64 (by decide +kernel)
theorem msk {x : Int32} (h : w12 x) : x &&& 4095 = x := by
  obtain ⟨k, h, rfl⟩ := h
  exact mskN k h
theorem msk_w (x : Int32) : w12 (x &&& 4095) := by
  obtain ⟨j, h, e⟩ := pk_andE x (m := 4095) 12 (by decide)
  exact ⟨j, h, e⟩
theorem adN : ∀ k, k < 4096 → (nI k &&& 127) = nI k - nI k / 128 * 128 ∧ nI k - nI k / 128 * 128 = nI (k % 128) ∧ (nI k &&& 3968) = nI k - (nI k - nI k / 128 * 128) ∧ (nI k &&& 3968) = nI (k / 128 * 128) := two (P := fun k => (nI k &&& 127) = nI k - nI k / 128 * 128 ∧ nI k - nI k / 128 * 128 = nI (k % 128) ∧ (nI k &&& 3968) = nI k - (nI k - nI k / 128 * 128) ∧ (nI k &&& 3968) = nI (k / 128 * 128)) 64 (by decide +kernel)
theorem cdN : ∀ k, k < 4096 → nI k >>> ((9 : Int32) &&& 31) = nI k / 512 ∧ nI k / 512 = nI (k / 512) := two (P := fun k => nI k >>> ((9 : Int32) &&& 31) = nI k / 512 ∧ nI k / 512 = nI (k / 512)) 64 (by decide +kernel)
theorem cmN : ∀ k, k < 4096 → nI k ^^^ 4095 = 4095 - nI k ∧ 4095 - nI k = nI (4095 - k) := two (P := fun k => nI k ^^^ 4095 = 4095 - nI k ∧ 4095 - nI k = nI (4095 - k)) 64 (by decide +kernel)
theorem smN : ∀ k, k < 8192 → (nI k ≤ 4095 → nI k &&& 4095 = nI k ∧ k < 4096) ∧ (¬ nI k ≤ 4095 → nI k &&& 4095 = nI k + (-4096) ∧ nI k + (-4096) = nI (k - 4096) ∧ 4096 ≤ k) := two (P := fun k => (nI k ≤ 4095 → nI k &&& 4095 = nI k ∧ k < 4096) ∧ (¬ nI k ≤ 4095 → nI k &&& 4095 = nI k + (-4096) ∧ nI k + (-4096) = nI (k - 4096) ∧ 4096 ≤ k)) 128 (by decide +kernel)
theorem prN : ∀ k, k < 4096 → nI k &&& 255 = nI k - nI k / 256 * 256 := two (P := fun k => nI k &&& 255 = nI k - nI k / 256 * 256) 64 (by decide +kernel)
theorem xr1 {x : Int32} (h : b1 x) : x ^^^ 1 = 1 - x ∧ b1 (1 - x) := by
  rcases h with rfl | rfl
  · exact ⟨by decide, Or.inr (by decide)⟩
  · exact ⟨by decide, Or.inl (by decide)⟩
/-- the turn of 13 bits to the left, by p places -/
def rot (p k : Nat) : Nat := (k * 2 ^ p + k / 2 ^ (13 - p)) % 8192
def tl (l a p : Int32) : Int32 := ((((l <<< ((12 : Int32) &&& 31)) ||| a) <<< (p &&& 31)) ||| (((l <<< ((12 : Int32) &&& 31)) ||| a) >>> ((13 - p) &&& 31))) &&& 8191
theorem tlN_1 : ∀ k, k < 8192 → tl (nI (k / 4096)) (nI (k % 4096)) 1 = nI (rot 1 k) := two (P := fun k => tl (nI (k / 4096)) (nI (k % 4096)) 1 = nI (rot 1 k)) 128 (by decide +kernel)
theorem tlN_2 : ∀ k, k < 8192 → tl (nI (k / 4096)) (nI (k % 4096)) 2 = nI (rot 1 (rot 1 k)) := two (P := fun k => tl (nI (k / 4096)) (nI (k % 4096)) 2 = nI (rot 1 (rot 1 k))) 128 (by decide +kernel)
theorem tlN_12 : ∀ k, k < 8192 → tl (nI (k / 4096)) (nI (k % 4096)) (13 - 1) = nI (rot 12 k) := two (P := fun k => tl (nI (k / 4096)) (nI (k % 4096)) (13 - 1) = nI (rot 12 k)) 128 (by decide +kernel)
theorem tlN_11 : ∀ k, k < 8192 → tl (nI (k / 4096)) (nI (k % 4096)) (13 - 2) = nI (rot 12 (rot 12 k)) := two (P := fun k => tl (nI (k / 4096)) (nI (k % 4096)) (13 - 2) = nI (rot 12 (rot 12 k))) 128 (by decide +kernel)
def al (l a : Int32) : Int32 := l * 4096 + a
theorem alN : ∀ k, k < 8192 → al (nI (k / 4096)) (nI (k % 4096)) = nI k ∧ nI k / 2 + (nI k - nI k / 2 * 2) * 4096 = nI (rot 12 k) ∧ (nI k * 2 - nI k * 2 / 8192 * 8192) + nI k / 4096 = nI (rot 1 k) ∧ nI k / 4096 = nI (k / 4096) ∧ nI k - nI k / 4096 * 4096 = nI (k % 4096) ∧ nI k >>> ((12 : Int32) &&& 31) = nI (k / 4096) ∧ nI k &&& 4095 = nI (k % 4096) := two (P := fun k => al (nI (k / 4096)) (nI (k % 4096)) = nI k ∧ nI k / 2 + (nI k - nI k / 2 * 2) * 4096 = nI (rot 12 k) ∧ (nI k * 2 - nI k * 2 / 8192 * 8192) + nI k / 4096 = nI (rot 1 k) ∧ nI k / 4096 = nI (k / 4096) ∧ nI k - nI k / 4096 * 4096 = nI (k % 4096) ∧ nI k >>> ((12 : Int32) &&& 31) = nI (k / 4096) ∧ nI k &&& 4095 = nI (k % 4096)) 128 (by decide +kernel)
