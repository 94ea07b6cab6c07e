/-! plain facts and names for rows of numbers and of truth values -/
def nF (g : Nat → Nat) : Nat → Int32 := fun k => nI (g k)
def zF (g : Nat → Bool) : Nat → Int32 := fun k => zI (g k)
theorem nF_upd (g : Nat → Nat) (k v : Nat) : upd (nF g) k (nI v) = nF (va_up g k v) := by
  funext j; by_cases h : j = k <;> simp [nF, upd, va_up, h]
theorem zF_upd (g : Nat → Bool) (k : Nat) (b : Bool) : upd (zF g) k (vp_nar .boolean (zI b)) = zF (va_up g k b) := by
  funext j; rw [zI_vnar]; by_cases h : j = k <;> simp [zF, upd, va_up, h]
theorem wn_dec {a : Nat} (d : Nat) (h : d ≤ a) : nI a + Int32.ofInt (-(d : Int)) = nI (a - d) := by
  have h1 : nI (a - d) + nI d = nI a := by rw [nI_add, Nat.sub_add_cancel h]
  rw [← h1]
  have h2 : nI d + Int32.ofInt (-(d : Int)) = 0 := by
    apply Int32.toInt_inj.mp
    simp [nI, Int32.toInt_add, Int32.toInt_ofInt, Int32.toInt_ofNat, Int.add_right_neg]
  rw [Int32.add_assoc, h2, Int32.add_zero]
/-- 0 ≤ v < b, as the class asks it -/
def isB (v b : Int32) : Bool := decide (0 ≤ v) && decide (v < b)
theorem isB_nat {a b : Nat} (ha : a < 2 ^ 31) (hb : b < 2 ^ 31) : isB (nI a) (nI b) = decide (a < b) := by
  simp only [isB, nI_pos' ha, nI_ltI ha hb, decide_true, Bool.true_and]
theorem isB_t {v b : Int32} (h : isB v b = true) {n : Nat} (hb : b = nI n) (hn : n < 2 ^ 31) : ∃ k, k < n ∧ v = nI k := by
  simp only [isB, Bool.and_eq_true, decide_eq_true_eq] at h
  obtain ⟨k, hk, rfl⟩ := nI_of (x := v) (fun z => by rw [Int32.lt_iff_toInt_lt] at z; have := Int32.le_iff_toInt_le.mp h.1; omega)
  exact ⟨k, (nI_ltI hk hn).mp (hb ▸ h.2), rfl⟩
theorem i32_nlt {a b : Int32} : ¬ a < b ↔ b ≤ a := by
  rw [Int32.lt_iff_toInt_lt, Int32.le_iff_toInt_le]; omega
theorem i32_nle {a b : Int32} : ¬ a ≤ b ↔ b < a := by
  rw [Int32.lt_iff_toInt_lt, Int32.le_iff_toInt_le]; omega
theorem zI_t {b : Bool} (h : b = true) : nI 1 = zI b := by rw [h]; rfl
theorem zI_f {b : Bool} (h : b = false) : nI 0 = zI b := by rw [h]; rfl
/-- the remainder of a number without sign -/
def ns_rem (x : Int32) (d : Nat) : Nat := x.toBitVec.toNat % d
theorem ns_lo (x : Int32) : x.toInt64 &&& 4294967295 = lN x.toBitVec.toNat := by
  apply Int64.toBitVec_inj.mp
  simp only [lN, Int64.toBitVec_and, Int32.toBitVec_toInt64, Int64.toBitVec_ofNat']
  have h1 : (4294967295 : Int64).toBitVec = BitVec.ofNat 64 (2 ^ 32 - 1) := by decide
  rw [h1]
  apply BitVec.eq_of_getLsbD_eq
  intro i hi
  simp only [BitVec.getLsbD_and, BitVec.getLsbD_ofNat, Nat.testBit_two_pow_sub_one, BitVec.getLsbD_signExtend, hi, decide_true, Bool.true_and]
  by_cases h : i < 32
  · simp [h, BitVec.getLsbD]
  · simp [h, Nat.testBit_lt_two_pow (Nat.lt_of_lt_of_le x.toBitVec.isLt (Nat.pow_le_pow_right (by decide) (Nat.le_of_not_lt h)))]
theorem ns_rem_eq (x : Int32) {d : Nat} (h0 : 0 < d) (hd : d < 2 ^ 31) : ((x.toInt64 &&& 4294967295) - (x.toInt64 &&& 4294967295) / (nI d).toInt64 * (nI d).toInt64).toInt32 = nI (ns_rem x d) := by
  have hx : x.toBitVec.toNat < 2 ^ 63 := Nat.lt_trans x.toBitVec.isLt (by decide)
  rw [ns_lo, nI_l hd, pk_lRem hx h0 (Nat.lt_trans hd (by decide)), lN_i]
  rfl
theorem ns_rem_lt (x : Int32) {d : Nat} (h0 : 0 < d) : ns_rem x d < d := Nat.mod_lt _ h0
theorem ns_ne0 {d : Nat} (h0 : 0 < d) (hd : d < 2 ^ 31) : ¬ (nI d).toInt64 = 0 := by
  rw [nI_l hd]
  intro h
  have := (pk_lEQ (a := d) (b := 0) (Nat.lt_trans hd (by decide)) (by decide)).mp h
  omega
def fa_fill {α : Type} (f g : Nat → α) (i : Nat) : Nat → α := fun k => if k < i then f k else g k
theorem fa_fill_0 {α : Type} (f g : Nat → α) : fa_fill f g 0 = g := funext fun k => if_neg (Nat.not_lt_zero k)
theorem fa_fill_in {α : Type} {f g : Nat → α} {i k : Nat} (h : k < i) : fa_fill f g i k = f k := if_pos h
theorem fa_fill_out {α : Type} {f g : Nat → α} {i k : Nat} (h : i ≤ k) : fa_fill f g i k = g k := if_neg (Nat.not_lt.mpr h)
theorem fa_fill_succ (f g : Nat → Int32) (i : Nat) : upd (fa_fill f g i) i (f i) = fa_fill f g (i + 1) := by
  funext k
  by_cases e : k = i
  · subst e
    rw [pk_us]
    exact (if_pos (Nat.lt_succ_self k)).symm
  · rw [pk_un e]
    by_cases h : k < i
    · rw [fa_fill_in h, fa_fill_in (Nat.lt_succ_of_lt h)]
    · rw [fa_fill_out (Nat.le_of_not_lt h), fa_fill_out (by omega)]
/-- a store that changes nothing -/
theorem fa_fill_up {α : Type} (f g : Nat → α) (i : Nat) : va_up (fa_fill f g i) i (f i) = fa_fill f g (i + 1) := by
  funext k
  by_cases h : k = i
  · subst h; rw [va_up_self, fa_fill_in (Nat.lt_succ_self k)]
  · rw [va_up_ne _ _ h]
    by_cases h2 : k < i
    · rw [fa_fill_in h2, fa_fill_in (Nat.lt_succ_of_lt h2)]
    · rw [fa_fill_out (Nat.le_of_not_lt h2), fa_fill_out (by omega)]
theorem fb_rng (x : Int32) : -2147483648 ≤ x.toInt ∧ x.toInt < 2147483648 := by
  have h1 := Int32.le_toInt x
  have h2 := Int32.toInt_lt x
  omega
theorem fb_bmod {z : Int} (h1 : -2147483648 ≤ z) (h2 : z < 2147483648) : z.bmod (2 ^ 32) = z := by
  rw [Int.bmod_eq_of_le (by omega) (by omega)]
theorem fb_addI {x y : Int32} (h1 : -2147483648 ≤ x.toInt + y.toInt) (h2 : x.toInt + y.toInt < 2147483648) : (x + y).toInt = x.toInt + y.toInt := by
  rw [Int32.toInt_add, fb_bmod h1 h2]
theorem fb_subI {x y : Int32} (h1 : -2147483648 ≤ x.toInt - y.toInt) (h2 : x.toInt - y.toInt < 2147483648) : (x - y).toInt = x.toInt - y.toInt := by
  rw [Int32.toInt_sub, fb_bmod h1 h2]
theorem fb_mulI {x y : Int32} (h1 : -2147483648 ≤ x.toInt * y.toInt) (h2 : x.toInt * y.toInt < 2147483648) : (x * y).toInt = x.toInt * y.toInt := by
  rw [Int32.toInt_mul, fb_bmod h1 h2]
theorem fb_negI {x : Int32} (h : x.toInt ≠ -2147483648) : (-x).toInt = -x.toInt := by
  have := fb_rng x
  rw [Int32.toInt_neg, fb_bmod (by omega) (by omega)]
theorem fb_ofI {z : Int} (h1 : -2147483648 ≤ z) (h2 : z < 2147483648) : (Int32.ofInt z).toInt = z := by
  rw [Int32.toInt_ofInt, fb_bmod h1 h2]
theorem fb_asI (x : Int32) : Int32.ofInt x.toInt = x := Int32.ofInt_toInt x
/-- floored, by a number above 0 -/
def fdiv (x : Int32) (d : Nat) : Int32 := Int32.ofInt (x.toInt / (d : Int))
theorem fdiv_tdiv {x : Int32} {d : Nat} (hd : d < 2 ^ 31) : (x / nI d).toInt = x.toInt.tdiv d := by
  have hr := fb_rng x
  rw [Int32.toInt_div, nI_toInt hd]
  by_cases hx : 0 ≤ x.toInt
  · have a1 := Int.tdiv_nonneg hx (Int.natCast_nonneg d)
    have a2 : x.toInt.tdiv d ≤ x.toInt := Int.tdiv_le_self _ hx
    exact Int.bmod_eq_of_le (by omega) (by omega)
  · have e : x.toInt.tdiv d = -((-x.toInt).tdiv d) := by rw [Int.neg_tdiv, Int.neg_neg]
    have a1 := Int.tdiv_nonneg (a := -x.toInt) (by omega) (Int.natCast_nonneg d)
    have a2 : (-x.toInt).tdiv d ≤ -x.toInt := Int.tdiv_le_self _ (by omega)
    by_cases h9 : x.toInt.tdiv d = 2147483648
    · omega
    · exact Int.bmod_eq_of_le (by omega) (by omega)
/-- the quotient that is cut, and what is left -/
theorem fdiv_qr (x : Int) {d : Nat} (h0 : 0 < d) : (d : Int) * x.tdiv d + x.tmod d = x ∧ (0 ≤ x → 0 ≤ x.tmod d ∧ x.tmod d < d) ∧ (x < 0 → x.tmod d ≤ 0 ∧ -(d : Int) < x.tmod d) := by
  have hd : (0 : Int) < d := by omega
  refine ⟨Int.mul_tdiv_add_tmod x d, fun h => ⟨Int.tmod_nonneg _ h, Int.tmod_lt_of_pos _ hd⟩, fun h => ?_⟩
  have e : x.tmod d = -((-x).tmod d) := by rw [Int.neg_tmod, Int.neg_neg]
  have a1 := Int.tmod_nonneg (a := -x) (d : Int) (by omega)
  have a2 := Int.tmod_lt_of_pos (-x) hd
  omega
theorem fdiv_ediv (x : Int) {d : Nat} (h0 : 0 < d) : x / (d : Int) = if x < 0 ∧ (d : Int) * x.tdiv d ≠ x then x.tdiv d - 1 else x.tdiv d := by
  have hd : (0 : Int) < d := by omega
  obtain ⟨h1, h2, h3⟩ := fdiv_qr x h0
  by_cases hx : x < 0
  · obtain ⟨h4, h5⟩ := h3 hx
    by_cases he : (d : Int) * x.tdiv d = x
    · rw [if_neg (by simp [he])]
      exact ((Int.ediv_emod_unique hd).mpr ⟨show 0 + (d : Int) * x.tdiv d = x by omega, Int.le_refl 0, hd⟩).1
    · rw [if_pos ⟨hx, he⟩]
      refine ((Int.ediv_emod_unique (r := x.tmod d + d) hd).mpr ⟨?_, by omega, by omega⟩).1
      rw [Int.mul_sub]; omega
  · obtain ⟨h4, h5⟩ := h2 (by omega)
    rw [if_neg (fun z => hx z.1)]
    exact ((Int.ediv_emod_unique (r := x.tmod d) hd).mpr ⟨by omega, h4, h5⟩).1
theorem fdiv_rng {x : Int32} {d : Nat} (h0 : 0 < d) : -2147483648 ≤ x.toInt / (d : Int) ∧ x.toInt / (d : Int) < 2147483648 := by
  have hr := fb_rng x
  have hd : (0 : Int) < d := by omega
  constructor
  · apply Int.le_ediv_of_mul_le hd
    have : (-2147483648 : Int) * d ≤ -2147483648 * 1 := Int.mul_le_mul_of_nonpos_left (by omega) (by omega)
    omega
  · apply Int.ediv_lt_of_lt_mul hd
    have : (2147483648 : Int) * 1 ≤ 2147483648 * d := Int.mul_le_mul_of_nonneg_left (by omega) (by omega)
    omega
theorem fdiv_toInt {x : Int32} {d : Nat} (h0 : 0 < d) : (fdiv x d).toInt = x.toInt / (d : Int) := fb_ofI (fdiv_rng h0).1 (fdiv_rng h0).2
theorem fdiv_mul {x : Int32} {d : Nat} (h0 : 0 < d) (hd : d < 2 ^ 31) : (x / nI d * nI d).toInt = (d : Int) * x.toInt.tdiv d := by
  have hr := fb_rng x
  obtain ⟨h1, h2, h3⟩ := fdiv_qr x.toInt h0
  have e : (x / nI d).toInt * (nI d).toInt = (d : Int) * x.toInt.tdiv d := by rw [fdiv_tdiv hd, nI_toInt hd, Int.mul_comm]
  rw [fb_mulI]
  · exact e
  · rw [e]
    by_cases hx : x.toInt < 0
    · have := h3 hx; omega
    · have := h2 (by omega); omega
  · rw [e]
    by_cases hx : x.toInt < 0
    · have := h3 hx; omega
    · have := h2 (by omega); omega
theorem fdiv_case {x : Int32} {d : Nat} (h0 : 0 < d) (hd : d < 2 ^ 31) : fdiv x d = if x < 0 ∧ ¬ x / nI d * nI d = x then x / nI d - 1 else x / nI d := by
  apply Int32.toInt_inj.mp
  have e1 : (x < 0 ∧ ¬ x / nI d * nI d = x) ↔ (x.toInt < 0 ∧ (d : Int) * x.toInt.tdiv d ≠ x.toInt) := by
    rw [Int32.lt_iff_toInt_lt, ← Int32.toInt_inj, fdiv_mul h0 hd, Int32.toInt_zero]
  rw [fdiv_toInt h0, fdiv_ediv x.toInt h0]
  by_cases h : x < 0 ∧ ¬ x / nI d * nI d = x
  · rw [if_pos h, if_pos (e1.mp h)]
    have hr := fdiv_rng (x := x) h0
    rw [fdiv_ediv x.toInt h0, if_pos (e1.mp h)] at hr
    rw [fb_subI, fdiv_tdiv hd]
    · rfl
    · rw [fdiv_tdiv hd, show (1 : Int32).toInt = 1 from rfl]; omega
    · rw [fdiv_tdiv hd, show (1 : Int32).toInt = 1 from rfl]; omega
  · rw [if_neg h, if_neg (fun z => h (e1.mpr z)), fdiv_tdiv hd]
theorem fdiv_sign {x : Int32} {d : Nat} (hd : d < 2 ^ 31) : 0 ≤ x ^^^ nI d ↔ ¬ x < 0 := by
  have hm : (nI d).toBitVec.msb = false := by
    rw [BitVec.msb_eq_toInt]
    have : (nI d).toBitVec.toInt = (d : Int) := nI_toInt hd
    simp [this]
  have e : (x ^^^ nI d).toBitVec.msb = x.toBitVec.msb := by
    rw [Int32.toBitVec_xor, BitVec.msb_xor, hm, Bool.xor_false]
  rw [BitVec.msb_eq_toInt, BitVec.msb_eq_toInt] at e
  rw [Int32.le_iff_toInt_le, Int32.lt_iff_toInt_lt, Int32.toInt_zero]
  have e2 : decide ((x ^^^ nI d).toInt < 0) = decide (x.toInt < 0) := e
  rw [decide_eq_decide] at e2
  omega
theorem fdiv_eq1 {x : Int32} {d : Nat} (h0 : 0 < d) (hd : d < 2 ^ 31) (hs : ¬ 0 ≤ x ^^^ nI d) (hne : ¬ x / nI d * nI d = x) : x / nI d - nI 1 = fdiv x d := by
  have hx : x < 0 := by
    by_cases h : x < 0
    · exact h
    · exact absurd ((fdiv_sign hd).mpr h) hs
  rw [fdiv_case h0 hd, if_pos ⟨hx, hne⟩]
  rfl
theorem fdiv_eq2 {x : Int32} {d : Nat} (h0 : 0 < d) (hd : d < 2 ^ 31) (h : 0 ≤ x ^^^ nI d ∨ x / nI d * nI d = x) : x / nI d = fdiv x d := by
  rw [fdiv_case h0 hd, if_neg]
  rintro ⟨h1, h2⟩
  rcases h with h | h
  · exact (fdiv_sign hd).mp h h1
  · exact h2 h
/-- the reference's own way to floor -/
theorem fdiv_eq3 {x : Int32} {d : Nat} (h0 : 0 < d) (hd : d < 2 ^ 31) : fdiv x d = if x < x / nI d * nI d then x / nI d - 1 else x / nI d := by
  rw [fdiv_case h0 hd]
  have e : (x < 0 ∧ ¬ x / nI d * nI d = x) ↔ x < x / nI d * nI d := by
    rw [Int32.lt_iff_toInt_lt, Int32.lt_iff_toInt_lt, ← Int32.toInt_inj, fdiv_mul h0 hd, Int32.toInt_zero]
    obtain ⟨h1, h2, h3⟩ := fdiv_qr x.toInt h0
    by_cases hx : x.toInt < 0
    · have := h3 hx; omega
    · have := h2 (by omega); omega
  by_cases h : x < x / nI d * nI d
  · rw [if_pos h, if_pos (e.mpr h)]
  · rw [if_neg h, if_neg (fun z => h (e.mp z))]
