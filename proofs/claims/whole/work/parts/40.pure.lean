/-! RANKS: the order that is arranged, and how many are ahead -/
section RNK
variable {bt ah : Nat → Nat → Bool} {kd : Nat → Int32} {kind : Int32} {o : Nat → Nat}
/-- how many of the kind, among the first, have q -/
def cK (kd : Nat → Int32) (kind : Int32) (q : Nat → Bool) : Nat → Nat
  | 0 => 0
  | m + 1 => cK kd kind q m + (if kd m = kind ∧ q m = true then 1 else 0)
/-- how many places, among the first, have q -/
def cO (o : Nat → Nat) (q : Nat → Bool) : Nat → Nat
  | 0 => 0
  | k + 1 => cO o q k + (if q (o k) = true then 1 else 0)
theorem insA_lo {n pl x k : Nat} (h : k < pl) : insA o n pl x k = o k := by
  unfold insA; rw [va_up_ne _ _ (by omega)]; exact shf_lo o h
theorem insA_at {n pl x : Nat} : insA o n pl x pl = x := va_up_self _ _ _
theorem insA_hi {n pl x k : Nat} (h : pl ≤ k) (h2 : k < n) : insA o n pl x (k + 1) = o k := by
  unfold insA; rw [va_up_ne _ _ (by omega)]; unfold shf; rw [if_pos (by omega), Nat.add_sub_cancel]
theorem cO_lo {n pl x : Nat} {q : Nat → Bool} : ∀ j, j ≤ pl → cO (insA o n pl x) q j = cO o q j
  | 0, _ => rfl
  | j + 1, h => by simp only [cO]; rw [cO_lo j (by omega), insA_lo (by omega)]
theorem cO_hi {n pl x : Nat} {q : Nat → Bool} : ∀ d, pl + d ≤ n → cO (insA o n pl x) q (pl + d + 1) = cO o q (pl + d) + (if q x = true then 1 else 0)
  | 0, _ => by simp only [cO, Nat.add_zero]; rw [cO_lo pl (Nat.le_refl _), insA_at]
  | d + 1, h => by
    have ih := cO_hi (n := n) (pl := pl) (q := q) (x := x) d (by omega)
    rw [show pl + (d + 1) + 1 = pl + d + 1 + 1 by omega, show pl + (d + 1) = pl + d + 1 by omega]
    simp only [cO] at ih ⊢
    rw [ih, insA_hi (k := pl + d) (by omega) (by omega)]
    omega
theorem cO_ins {n pl x : Nat} {q : Nat → Bool} (h : pl ≤ n) : cO (insA o n pl x) q (n + 1) = cO o q n + (if q x = true then 1 else 0) := by
  have := cO_hi (o := o) (x := x) (q := q) (n := n) (pl := pl) (n - pl) (by omega)
  rwa [show pl + (n - pl) = n by omega] at this
theorem arr_count (q : Nat → Bool) : ∀ m, cK kd kind q m = cO (arrO bt kd kind o m) q (arrN kd kind m)
  | 0 => rfl
  | m + 1 => by
    simp only [cK, arrO, arrN]
    by_cases h : kd m = kind
    · rw [if_pos h, if_pos h, cO_ins (insP_le _ _ _ _), arr_count q m]
      simp only [h, true_and]
    · rw [if_neg h, if_neg h, arr_count q m]
      simp only [h, false_and, if_false, Nat.add_zero]
theorem insP_ge {x : Nat} : ∀ N k, insP bt x o N ≤ k → k < N → bt x (o k) = true
  | 0, _, _, h => absurd h (Nat.not_lt_zero _)
  | q + 1, k, h1, h2 => by
    simp only [insP] at h1
    by_cases hb : bt x (o q) = true
    · rw [if_pos hb] at h1
      by_cases e : k = q
      · rw [e]; exact hb
      · exact insP_ge q k h1 (by omega)
    · rw [if_neg hb] at h1; omega
theorem insP_bf {x : Nat} : ∀ N, insP bt x o N = 0 ∨ bt x (o (insP bt x o N - 1)) = false
  | 0 => Or.inl rfl
  | q + 1 => by
    simp only [insP]
    by_cases hb : bt x (o q) = true
    · rw [if_pos hb]; exact insP_bf q
    · rw [if_neg hb]; right; rw [Nat.add_sub_cancel]; simpa using hb
theorem arr_srt {n : Nat} (hbt : ∀ a b, b < a → a < n → bt a b = ah a b) (htot : ∀ a b, a < n → b < n → a ≠ b → ah a b = !ah b a) (htrn : ∀ a b c, a < n → b < n → c < n → ah a b = true → ah b c = true → ah a c = true) :
    ∀ m, m ≤ n → ∀ i j, i < j → j < arrN kd kind m → ah (arrO bt kd kind o m i) (arrO bt kd kind o m j) = true
  | 0, _, _, _, _, h => absurd h (Nat.not_lt_zero _)
  | m + 1, hm, i, j, hij, hj => by
    have ih := arr_srt hbt htot htrn m (by omega)
    have hlt := arrO_lt bt kd kind o m
    simp only [arrO, arrN] at hj ⊢
    by_cases hk : kd m = kind
    · rw [if_pos hk] at hj ⊢
      generalize arrO bt kd kind o m = f at *
      generalize arrN kd kind m = N at *
      have hpl := insP_le bt m f N
      have hge := insP_ge (bt := bt) (o := f) (x := m) N
      have hbf := insP_bf (bt := bt) (o := f) (x := m) N
      generalize insP bt m f N = pl at *
      have hlo : ∀ i, i < pl → ah (f i) m = true := by
        intro i hi
        have h1 : ah (f (pl - 1)) m = true := by
          have h2 : f (pl - 1) < m := hlt _ (by omega)
          rw [htot _ _ (by omega) (by omega) (by omega), ← hbt _ _ h2 (by omega)]
          rcases hbf with h | h
          · omega
          · rw [h]; rfl
        by_cases e : i = pl - 1
        · rw [e]; exact h1
        · have h3 := hlt i (by omega)
          have h4 := hlt (pl - 1) (by omega)
          exact htrn _ _ _ (by omega) (by omega) (by omega) (ih i (pl - 1) (by omega) (by omega)) h1
      have hhi : ∀ j, pl ≤ j → j < N → ah m (f j) = true := by
        intro j h1 h2
        have h3 := hlt j h2
        rw [← hbt _ _ h3 (by omega)]
        exact hge j h1 h2
      rcases Nat.lt_trichotomy j pl with h1 | h1 | h1
      · rw [insA_lo (by omega), insA_lo h1]; exact ih i j hij (by omega)
      · subst h1; rw [insA_lo hij, insA_at]; exact hlo i hij
      · obtain ⟨j', rfl⟩ : ∃ j', j = j' + 1 := ⟨j - 1, by omega⟩
        rw [insA_hi (by omega) (by omega)]
        rcases Nat.lt_trichotomy i pl with h2 | h2 | h2
        · rw [insA_lo h2]; exact ih i j' (by omega) (by omega)
        · subst h2; rw [insA_at]; exact hhi j' (by omega) (by omega)
        · obtain ⟨i', rfl⟩ : ∃ i', i = i' + 1 := ⟨i - 1, by omega⟩
          rw [insA_hi (by omega) (by omega)]; exact ih i' j' (by omega) (by omega)
    · rw [if_neg hk] at hj ⊢; exact ih i j hij hj
theorem cnA_cK {x : Nat} : ∀ m, cnA ah kd kind x m = cK kd kind (fun y => decide (y ≠ x) && ah y x) m
  | 0 => rfl
  | m + 1 => by
    simp only [cnA, cK]
    rw [cnA_cK m]
    congr 1
    by_cases h1 : m = x <;> by_cases h2 : kd m = kind <;> by_cases h3 : ah m x = true <;> simp [h1, h2, h3]
theorem cO_min {q : Nat → Bool} {k : Nat} : ∀ N, (∀ i, i < N → q (o i) = decide (i < k)) → cO o q N = min N k
  | 0, _ => by simp [cO]
  | N + 1, h => by
    simp only [cO]
    rw [cO_min N (fun i hi => h i (by omega)), h N (by omega)]
    by_cases h2 : N < k
    · rw [if_pos (decide_eq_true h2)]; omega
    · rw [if_neg (by simp [h2])]; omega
theorem cO_ex {q : Nat → Bool} : ∀ N, 0 < cO o q N → ∃ i, i < N ∧ q (o i) = true
  | 0, h => absurd h (Nat.lt_irrefl 0)
  | N + 1, h => by
    simp only [cO] at h
    by_cases hq : q (o N) = true
    · exact ⟨N, Nat.lt_succ_self N, hq⟩
    · rw [if_neg hq] at h
      obtain ⟨i, h1, h2⟩ := cO_ex N (by omega)
      exact ⟨i, by omega, h2⟩
theorem cO_no {q : Nat → Bool} : ∀ N, cO o q N = 0 → ∀ i, i < N → q (o i) = false
  | 0, _, _, h => absurd h (Nat.not_lt_zero _)
  | N + 1, h, i, hi => by
    simp only [cO] at h
    by_cases hq : q (o N) = true
    · rw [if_pos hq] at h; omega
    · by_cases e : i = N
      · rw [e]; simpa using hq
      · exact cO_no N (by omega) i (by omega)
theorem cK_pos {q : Nat → Bool} {x : Nat} (hk : kd x = kind) (hq : q x = true) : ∀ m, x < m → 0 < cK kd kind q m
  | 0, h => absurd h (Nat.not_lt_zero _)
  | m + 1, h => by
    simp only [cK]
    by_cases e : x = m
    · subst e; rw [if_pos ⟨hk, hq⟩]; omega
    · have := cK_pos hk hq m (by omega); omega
theorem cK_0 : ∀ m, cK kd kind (fun y => decide (kd y ≠ kind)) m = 0
  | 0 => rfl
  | m + 1 => by
    simp only [cK]
    rw [cK_0 m]
    by_cases h : kd m = kind <;> simp [h]
theorem arr_kd {m k : Nat} (hk : k < arrN kd kind m) : kd (arrO bt kd kind o m k) = kind := by
  have h := cO_no _ ((arr_count (bt := bt) (o := o) (fun y => decide (kd y ≠ kind)) m).symm.trans (cK_0 m)) k hk
  simpa using h
theorem arr_on {m x : Nat} (hx : x < m) (hk : kd x = kind) : ∃ i, i < arrN kd kind m ∧ arrO bt kd kind o m i = x := by
  have h := cK_pos (q := fun y => decide (y = x)) hk (by simp) m hx
  rw [arr_count (bt := bt) (o := o)] at h
  obtain ⟨i, h1, h2⟩ := cO_ex _ h
  exact ⟨i, h1, by simpa using h2⟩
theorem arr_cn {n k : Nat} (hbt : ∀ a b, b < a → a < n → bt a b = ah a b) (htot : ∀ a b, a < n → b < n → a ≠ b → ah a b = !ah b a) (htrn : ∀ a b c, a < n → b < n → c < n → ah a b = true → ah b c = true → ah a c = true) (hirr : ∀ a, ah a a = false) (hk : k < arrN kd kind n) :
    cnA ah kd kind (arrO bt kd kind o n k) n = k := by
  have hs := arr_srt (kd := kd) (kind := kind) (o := o) hbt htot htrn n (Nat.le_refl n)
  have hlt := arrO_lt bt kd kind o n
  rw [cnA_cK, arr_count (bt := bt) (o := o), cO_min (k := k)]
  · omega
  · intro i hi
    rcases Nat.lt_trichotomy i k with h | h | h
    · have h1 := hs i k h hk
      have h2 : arrO bt kd kind o n i ≠ arrO bt kd kind o n k := by
        intro e; rw [e, hirr] at h1; cases h1
      simp [h, h1, h2]
    · subst h; simp
    · have h1 := hs k i h hi
      have h2 : arrO bt kd kind o n i ≠ arrO bt kd kind o n k := by
        intro e; rw [e, hirr] at h1; cases h1
      have h3 : ah (arrO bt kd kind o n i) (arrO bt kd kind o n k) = false := by
        rw [htot _ _ (hlt i hi) (hlt k hk) h2, h1]; rfl
      simp [h3, show ¬ i < k by omega]
theorem rkO_hit {kk : Int32} {n : Nat} : ∀ f x y, x ≤ y → y < x + f → (kd y = kind ∧ nI (cnA ah kd kind y n) = kk) → (∀ z, x ≤ z → z < y → ¬ (kd z = kind ∧ nI (cnA ah kd kind z n) = kk)) → rkO ah kd kind kk n f x = some y
  | 0, x, y, h1, h2, _, _ => by omega
  | f + 1, x, y, h1, h2, h3, h4 => by
    simp only [rkO]
    by_cases e : x = y
    · subst e; rw [if_pos h3]
    · rw [if_neg (h4 x (Nat.le_refl x) (by omega))]
      exact rkO_hit f (x + 1) y (by omega) (by omega) h3 (fun z h5 h6 => h4 z (by omega) h6)
theorem rkO_miss {kk : Int32} {n : Nat} : ∀ f x, (∀ z, x ≤ z → z < x + f → ¬ (kd z = kind ∧ nI (cnA ah kd kind z n) = kk)) → rkO ah kd kind kk n f x = none
  | 0, _, _ => rfl
  | f + 1, x, h => by
    simp only [rkO]
    rw [if_neg (h x (Nat.le_refl x) (by omega))]
    exact rkO_miss f (x + 1) (fun z h5 h6 => h z (by omega) (by omega))
theorem rk_in {n k : Nat} (hn : n ≤ 24) (hbt : ∀ a b, b < a → a < n → bt a b = ah a b) (htot : ∀ a b, a < n → b < n → a ≠ b → ah a b = !ah b a) (htrn : ∀ a b c, a < n → b < n → c < n → ah a b = true → ah b c = true → ah a c = true) (hirr : ∀ a, ah a a = false) (hk : k < arrN kd kind n) :
    rkO ah kd kind (nI k) n n 0 = some (arrO bt kd kind o n k) := by
  have hN := arrN_le kd kind n
  have hc : ∀ i, i < arrN kd kind n → cnA ah kd kind (arrO bt kd kind o n i) n = i := fun i hi => arr_cn hbt htot htrn hirr hi
  refine rkO_hit n 0 _ (Nat.zero_le _) (by have := arrO_lt bt kd kind o n k hk; omega) ⟨arr_kd hk, by rw [hc k hk]⟩ ?_
  rintro z - hz ⟨h1, h2⟩
  have hzn : z < n := Nat.lt_trans hz (arrO_lt bt kd kind o n k hk)
  obtain ⟨i, hi, rfl⟩ := arr_on (bt := bt) (o := o) hzn h1
  rw [hc i hi] at h2
  have : i = k := (nI_eq (by omega) (by omega)).mp h2
  subst this
  exact Nat.lt_irrefl _ hz
theorem rk_out {n : Nat} {kk : Int32} (hbt : ∀ a b, b < a → a < n → bt a b = ah a b) (htot : ∀ a b, a < n → b < n → a ≠ b → ah a b = !ah b a) (htrn : ∀ a b c, a < n → b < n → c < n → ah a b = true → ah b c = true → ah a c = true) (hirr : ∀ a, ah a a = false) (o : Nat → Nat) (hk : ∀ i, i < arrN kd kind n → nI i ≠ kk) :
    rkO ah kd kind kk n n 0 = none := by
  refine rkO_miss n 0 ?_
  rintro z - hz ⟨h1, h2⟩
  obtain ⟨i, hi, rfl⟩ := arr_on (bt := bt) (o := o) (show z < n by omega) h1
  rw [arr_cn hbt htot htrn hirr hi] at h2
  exact hk i hi h2
end RNK
section LEX
variable {x y z : Nat → Int32} {up : Nat → Bool} {a b c : Nat}
theorem i32_dec {v w : Int32} (h : ¬ v = w) : decide (v < w) = !decide (w < v) := by
  by_cases h1 : v < w
  · rw [decide_eq_true h1, decide_eq_false (i32_asym h1)]; rfl
  · rw [decide_eq_false h1, decide_eq_true (i32_tot h h1)]; rfl
theorem aha_tot (hab : a ≠ b) : ∀ f k, aha x y up a b f k = !aha y x up b a f k
  | 0, _ => by
    simp only [aha]
    by_cases h : a < b
    · rw [decide_eq_true h, decide_eq_false (by omega)]; rfl
    · rw [decide_eq_false h, decide_eq_true (by omega)]; rfl
  | f + 1, k => by
    simp only [aha]
    by_cases h : x k = y k
    · rw [if_pos h, if_pos h.symm, aha_tot hab f (k + 1)]
    · rw [if_neg h, if_neg (fun e => h e.symm), i32_dec h]
      cases decide (y k < x k) <;> cases up k <;> rfl
theorem aha_irr : ∀ f k, aha x x up a a f k = false
  | 0, _ => by simp [aha]
  | f + 1, k => by
    show (if x k = x k then aha x x up a a f (k + 1) else (decide (x k < x k) == up k)) = false
    rw [if_pos rfl]; exact aha_irr f (k + 1)
theorem aha_trn : ∀ f k, aha x y up a b f k = true → aha y z up b c f k = true → aha x z up a c f k = true
  | 0, _, h1, h2 => by
    simp only [aha, decide_eq_true_eq] at *; omega
  | f + 1, k, h1, h2 => by
    simp only [aha] at *
    by_cases e1 : x k = y k
    · rw [if_pos e1] at h1
      by_cases e2 : y k = z k
      · rw [if_pos e2] at h2
        rw [if_pos (e1.trans e2)]; exact aha_trn f (k + 1) h1 h2
      · rw [if_neg e2] at h2
        rw [e1, if_neg e2]; exact h2
    · rw [if_neg e1] at h1
      by_cases e2 : y k = z k
      · rw [← e2, if_neg e1]; exact h1
      · rw [if_neg e2] at h2
        cases hu : up k with
        | true =>
          rw [hu] at h1 h2
          have h3 : x k < y k := by simpa using h1
          have h4 : y k < z k := by simpa using h2
          have h5 : x k < z k := by rw [Int32.lt_iff_toInt_lt] at *; omega
          rw [if_neg (fun e => by rw [e] at h5; exact absurd h5 (by rw [Int32.lt_iff_toInt_lt]; omega)), decide_eq_true h5]; rfl
        | false =>
          rw [hu] at h1 h2
          have h3 : y k < x k := i32_tot e1 (by simpa using h1)
          have h4 : z k < y k := i32_tot e2 (by simpa using h2)
          have h5 : z k < x k := by rw [Int32.lt_iff_toInt_lt] at *; omega
          rw [if_neg (fun e => by rw [e] at h5; exact absurd h5 (by rw [Int32.lt_iff_toInt_lt]; omega)), decide_eq_false (i32_asym h5)]; rfl
theorem aha_bts (hab : ¬ a < b) : ∀ f k, aha x y up a b f k = bts x y up f k
  | 0, _ => by simp only [aha, bts]; exact decide_eq_false hab
  | f + 1, k => by
    simp only [aha, bts]
    rw [aha_bts hab f (k + 1)]
theorem bts_cong {x' y' : Nat → Int32} {up' : Nat → Bool} : ∀ f k, (∀ i, k ≤ i → i < k + f → x i = x' i ∧ y i = y' i ∧ up i = up' i) → bts x y up f k = bts x' y' up' f k
  | 0, _, _ => rfl
  | f + 1, k, h => by
    simp only [bts]
    obtain ⟨h1, h2, h3⟩ := h k (Nat.le_refl k) (by omega)
    rw [h1, h2, h3, bts_cong f (k + 1) (fun i h4 h5 => h i (by omega) (by omega))]
end LEX
