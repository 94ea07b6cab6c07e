/-! the draw: its row and the row that turns it round -/
section DRW
variable {nz : Nat → Int32} {n : Nat} {f pp : Nat → Nat}
def dr_sg (i j x : Nat) : Nat := if x = j then i else if x = i then j else x
theorem dr_sw1 (f : Nat → Nat) (i j x : Nat) : va_up (va_up f i (f j)) j (f i) x = f (dr_sg i j x) := by
  unfold dr_sg
  by_cases h1 : x = j
  · subst h1; rw [va_up_self, if_pos rfl]
  · rw [va_up_ne _ _ h1, if_neg h1]
    by_cases h2 : x = i
    · subst h2; rw [va_up_self, if_pos rfl]
    · rw [va_up_ne _ _ h2, if_neg h2]
theorem dr_sg_inj {i j x y : Nat} (h : dr_sg i j x = dr_sg i j y) : x = y := by
  unfold dr_sg at h
  split at h <;> split at h <;> (try split at h) <;> (try split at h) <;> omega
theorem dr_sg_lt {i j x : Nat} (hi : i < n) (hj : j < n) (hx : x < n) : dr_sg i j x < n := by
  unfold dr_sg; split
  · exact hi
  · split
    · exact hj
    · exact hx
theorem dr_sw_inj (h : ∀ a b, a < n → b < n → f a = f b → a = b) : ∀ j, j < n → ∀ a b, a < n → b < n → dr_sw nz n f j a = dr_sw nz n f j b → a = b
  | 0, _, a, b, ha, hb, e => h a b ha hb e
  | j + 1, hj, a, b, ha, hb, e => by
    have ho : ns_rem (nz j) (n - 1 - j + 1) < n := Nat.lt_of_lt_of_le (ns_rem_lt _ (by omega)) (by omega)
    simp only [dr_sw, dr_step] at e
    rw [dr_sw1, dr_sw1] at e
    exact dr_sg_inj (dr_sw_inj h j (by omega) _ _ (dr_sg_lt (by omega) ho ha) (dr_sg_lt (by omega) ho hb) e)
theorem dr_sw_on (h : ∀ q, q < n → ∃ a, a < n ∧ f a = q) : ∀ j, j < n → ∀ q, q < n → ∃ a, a < n ∧ dr_sw nz n f j a = q
  | 0, _, q, hq => h q hq
  | j + 1, hj, q, hq => by
    have ho : ns_rem (nz j) (n - 1 - j + 1) < n := Nat.lt_of_lt_of_le (ns_rem_lt _ (by omega)) (by omega)
    obtain ⟨a, ha, e⟩ := dr_sw_on h j (by omega) q hq
    refine ⟨dr_sg (n - 1 - j) (ns_rem (nz j) (n - 1 - j + 1)) a, dr_sg_lt (by omega) ho ha, ?_⟩
    simp only [dr_sw, dr_step]
    rw [dr_sw1, ← e]
    congr 1
    generalize n - 1 - j = i
    generalize ns_rem (nz j) (i + 1) = k
    unfold dr_sg
    by_cases h1 : a = k
    · subst h1
      rw [if_pos rfl]
      by_cases h2 : i = a
      · rw [if_pos h2, h2]
      · rw [if_neg h2, if_pos rfl]
    · rw [if_neg h1]
      by_cases h2 : a = i
      · subst h2; rw [if_pos rfl, if_pos rfl]
      · rw [if_neg h2, if_neg h1, if_neg h2]
theorem dr_inv_at (h : ∀ a b, a < n → b < n → f a = f b → a = b) : ∀ m, m ≤ n → ∀ k, k < m → dr_inv f pp m (f k) = k
  | 0, _, k, hk => absurd hk (Nat.not_lt_zero k)
  | m + 1, hm, k, hk => by
    simp only [dr_inv]
    by_cases e : k = m
    · subst e; exact va_up_self _ _ _
    · rw [va_up_ne _ _ (fun e2 => e (h k m (by omega) (by omega) e2))]
      exact dr_inv_at h m (by omega) k (by omega)
/-- what the draw leaves -/
def DR (n : Nat) (pb pp : Nat → Nat) : Prop := (∀ x, x < n → pb x < n) ∧ (∀ x, x < n → pp (pb x) = x) ∧ ∀ q, q < n → pp q < n ∧ pb (pp q) = q
theorem dr_ok (h1 : 1 ≤ n) : DR n (dr_pb nz n f) (dr_inv (dr_pb nz n f) pp n) := by
  have hinj : ∀ a b, a < n → b < n → dr_pb nz n f a = dr_pb nz n f b → a = b := dr_sw_inj (fun a b ha hb e => by rw [fa_fill_in ha, fa_fill_in hb] at e; exact e) (n - 1) (by omega)
  have hon : ∀ q, q < n → ∃ a, a < n ∧ dr_pb nz n f a = q := dr_sw_on (fun q hq => ⟨q, hq, fa_fill_in hq⟩) (n - 1) (by omega)
  refine ⟨fun x hx => dr_pb_lt hx, fun x hx => dr_inv_at hinj n (Nat.le_refl n) x hx, fun q hq => ?_⟩
  obtain ⟨a, ha, e⟩ := hon q hq
  have h2 := dr_inv_at (pp := pp) hinj n (Nat.le_refl n) a ha
  rw [e] at h2
  rw [h2]
  exact ⟨ha, e⟩
end DRW
/-! the sheet's rows against the MARKS -/
section SHT
variable {mk mk' hd td su gr : Nat → Int32} {P j t q : Nat} {v : Int32}
theorem hd_s1_cong {p : Nat} (e : ∀ a, mk (ix a p t) = mk' (ix a p t)) : ∀ k, hd_s1 mk j t p k = hd_s1 mk' j t p k ∧ hd_n1 mk j t p k = hd_n1 mk' j t p k
  | 0 => ⟨rfl, rfl⟩
  | k + 1 => by
    obtain ⟨h1, h2⟩ := hd_s1_cong e k
    simp only [hd_s1, hd_n1]
    rw [h1, h2, e j, e k]
    exact ⟨rfl, rfl⟩
theorem hd_cong (e : ∀ a p, mk (ix a p t) = mk' (ix a p t)) : ∀ p, hd_s mk j t p = hd_s mk' j t p ∧ hd_n mk j t p = hd_n mk' j t p
  | 0 => ⟨rfl, rfl⟩
  | p + 1 => by
    obtain ⟨h1, h2⟩ := hd_cong e p
    obtain ⟨h3, h4⟩ := hd_s1_cong (j := j) (fun a => e a p) 4
    simp only [hd_s, hd_n]
    rw [h1, h2, h3, h4]
    exact ⟨rfl, rfl⟩
theorem hardF_cong (e : ∀ a p, mk (ix a p t) = mk' (ix a p t)) : hardF mk P j t = hardF mk' P j t := by
  unfold hardF
  rw [(hd_cong e P).1, (hd_cong e P).2]
theorem td_mk_cong {h : Nat → Int32} (e : ∀ a, mk (ix a q t) = mk' (ix a q t)) : ∀ n, td_s mk h q t n = td_s mk' h q t n ∧ td_n mk q t n = td_n mk' q t n
  | 0 => ⟨rfl, rfl⟩
  | n + 1 => by
    obtain ⟨h1, h2⟩ := td_mk_cong (h := h) e n
    simp only [td_s, td_n]
    rw [h1, h2, e n]
    exact ⟨rfl, rfl⟩
theorem toldC_cong (e : ∀ a p, mk (ix a p t) = mk' (ix a p t)) : toldC mk P q t = toldC mk' P q t := by
  unfold toldC
  rw [toldF_cong (h2 := fun j => hardF mk' P j t) (fun j _ => hardF_cong e)]
  unfold toldF
  rw [(td_mk_cong (fun a => e a q) 4).1, (td_mk_cong (h := fun _ => 0) (fun a => e a q) 4).2]
theorem ix_ne {a p t' : Nat} (ht : t < 5) (ht' : t' < 5) (h : t' ≠ t) : ix a p t' ≠ ix j q t := by
  unfold ix; omega
theorem wp_h_at (ht : t < 5) {a t' : Nat} (ht' : t' < 5) : ∀ J, wp_h mk P t hd J (a * 5 + t') = if t' = t ∧ a < J then hardF mk P a t else hd (a * 5 + t')
  | 0 => by rw [if_neg (by omega)]; rfl
  | J + 1 => by
    simp only [wp_h]
    by_cases e : a = J ∧ t' = t
    · obtain ⟨rfl, rfl⟩ := e
      rw [pk_us, if_pos ⟨rfl, by omega⟩]
    · rw [pk_un (by omega), wp_h_at ht ht' J]
      by_cases h : t' = t ∧ a < J
      · rw [if_pos h, if_pos ⟨h.1, by omega⟩]
      · rw [if_neg h, if_neg (by omega)]
theorem wp_t_at {h : Nat → Int32} (ht : t < 5) {a t' : Nat} (ht' : t' < 5) : ∀ J, wp_t mk h t td J (a * 5 + t') = if t' = t ∧ a < J then toldF mk (fun j => h (j * 5 + t)) a t else td (a * 5 + t')
  | 0 => by rw [if_neg (by omega)]; rfl
  | J + 1 => by
    simp only [wp_t]
    by_cases e : a = J ∧ t' = t
    · obtain ⟨rfl, rfl⟩ := e
      rw [pk_us, if_pos ⟨rfl, by omega⟩]
    · rw [pk_un (by omega), wp_t_at ht ht' J]
      by_cases h : t' = t ∧ a < J
      · rw [if_pos h, if_pos ⟨h.1, by omega⟩]
      · rw [if_neg h, if_neg (by omega)]
theorem sm_at {a : Nat} : ∀ J, sm td su J a = if a < J then sm1 td a 5 else su a
  | 0 => by rw [if_neg (by omega)]; rfl
  | J + 1 => by
    simp only [sm]
    by_cases e : a = J
    · subst e; rw [pk_us, if_pos (by omega)]
    · rw [pk_un e, sm_at J]
      by_cases h : a < J
      · rw [if_pos h, if_pos (by omega)]
      · rw [if_neg h, if_neg (by omega)]
theorem gr_f_at {a : Nat} : ∀ J, gr_f su P gr J a = if a < J then gr_v su P a else gr a
  | 0 => by rw [if_neg (by omega)]; rfl
  | J + 1 => by
    simp only [gr_f]
    by_cases e : a = J
    · subst e; rw [pk_us, if_pos (by omega)]
    · rw [pk_un e, gr_f_at J]
      by_cases h : a < J
      · rw [if_pos h, if_pos (by omega)]
      · rw [if_neg h, if_neg (by omega)]
theorem sm1_eq : ∀ m, m ≤ 5 → (∀ t, t < 5 → td (q * 5 + t) = toldC mk P q t) → sm1 td q m = sumC1 mk P q m
  | 0, _, _ => nI_0.symm
  | m + 1, h, e => by
    simp only [sm1, sumC1]
    rw [sm1_eq m (by omega) e, e m (by omega)]
theorem gr_all_cong {su' : Nat → Int32} : ∀ m, (∀ a, a < m → su a = su' a) → gr_all su m = gr_all su' m
  | 0, _ => rfl
  | m + 1, e => by simp only [gr_all]; rw [gr_all_cong m (fun a h => e a (by omega)), e m (by omega)]
theorem gr_v_cong {su' : Nat → Int32} (h2 : 2 ≤ P) (hq : q < P) (e : ∀ a, a < P → su a = su' a) : gr_v su P q = gr_v su' P q := by
  unfold gr_v
  rw [gr_all_cong P e]
  have : gr_nb su P q = gr_nb su' P q := by
    unfold gr_nb
    by_cases h0 : q = 0
    · rw [if_pos h0, if_pos h0, e 1 (by omega)]
    · by_cases h1 : q = P - 1
      · rw [if_neg h0, if_neg h0, if_pos h1, if_pos h1, e (q - 1) (by omega)]
      · rw [if_neg h0, if_neg h0, if_neg h1, if_neg h1, e (q - 1) (by omega), e (q + 1) (by omega)]
  rw [this]
/-- the sheet's rows are what the MARKS say -/
def SH (mk : Nat → Int32) (P : Nat) (hd td su gr : Nat → Int32) : Prop :=
  (∀ j, j < 4 → ∀ t, t < 5 → hd (j * 5 + t) = hardF mk P j t) ∧ (∀ q, q < P → ∀ t, t < 5 → td (q * 5 + t) = toldC mk P q t) ∧ (∀ q, q < P → su q = sumC mk P q) ∧ ∀ q, q < P → gr q = gndC mk P q
theorem sh_put (ht : t < 5) (h : SH mk P hd td su gr) : SH (upd mk (ix j q t) v) P (wp_h (upd mk (ix j q t) v) P t hd 4) (wp_t (upd mk (ix j q t) v) (wp_h (upd mk (ix j q t) v) P t hd 4) t td P) (sm (wp_t (upd mk (ix j q t) v) (wp_h (upd mk (ix j q t) v) P t hd 4) t td P) su P) (grF (sm (wp_t (upd mk (ix j q t) v) (wp_h (upd mk (ix j q t) v) P t hd 4) t td P) su P) P gr) := by
  obtain ⟨h1, h2, h3, h4⟩ := h
  generalize hm : upd mk (ix j q t) v = mk'
  have hc : ∀ t', t' < 5 → t' ≠ t → ∀ a p, mk (ix a p t') = mk' (ix a p t') := fun t' ht' hne a p => by rw [← hm, pk_un (ix_ne ht ht' hne)]
  have k1 : ∀ a, a < 4 → ∀ t', t' < 5 → wp_h mk' P t hd 4 (a * 5 + t') = hardF mk' P a t' := fun a ha t' ht' => by
    rw [wp_h_at ht ht']
    by_cases e : t' = t
    · subst e; rw [if_pos ⟨rfl, ha⟩]
    · rw [if_neg (fun z => e z.1), h1 a ha t' ht', hardF_cong (hc t' ht' e)]
  have k2 : ∀ a, a < P → ∀ t', t' < 5 → wp_t mk' (wp_h mk' P t hd 4) t td P (a * 5 + t') = toldC mk' P a t' := fun a ha t' ht' => by
    rw [wp_t_at ht ht']
    by_cases e : t' = t
    · subst e
      rw [if_pos ⟨rfl, ha⟩]
      exact toldF_cong (fun b hb => k1 b hb t' ht')
    · rw [if_neg (fun z => e z.1), h2 a ha t' ht', toldC_cong (hc t' ht' e)]
  have k3 : ∀ a, a < P → sm (wp_t mk' (wp_h mk' P t hd 4) t td P) su P a = sumC mk' P a := fun a ha => by
    rw [sm_at, if_pos ha, sm1_eq 5 (Nat.le_refl 5) (k2 a ha)]; rfl
  refine ⟨k1, k2, k3, fun a ha => ?_⟩
  unfold grF gndC
  by_cases hP : P < 2
  · rw [if_pos hP, if_pos hP, h4 a ha]; unfold gndC; rw [if_pos hP]
  · rw [if_neg hP, if_neg hP, gr_f_at, if_pos ha, gr_v_cong (by omega) ha k3]
/-- ahead of the draw -/
def S0 (mk hd td su gr : Nat → Int32) : Prop := (∀ k, k < 480 → mk k = -1) ∧ (∀ k, k < 20 → hd k = nI 0) ∧ (∀ k, k < 120 → td k = (-100000)) ∧ (∀ k, k < 24 → su k = nI 0) ∧ ∀ k, k < 24 → gr k = nI 0
theorem hd_n_0 (hm : ∀ k, k < 480 → mk k = -1) (hj : j < 4) (ht : t < 5) : ∀ p, p ≤ 24 → hd_n mk j t p = 0
  | 0, _ => rfl
  | p + 1, h => by
    simp only [hd_n]
    rw [hd_n_0 hm hj ht p (by omega), (hd_none (hm _ (ix_lt hj (by omega) ht)) 4).2]
theorem td_n_0 (hm : ∀ k, k < 480 → mk k = -1) (hq : q < 24) (ht : t < 5) : ∀ n, n ≤ 4 → td_n mk q t n = 0
  | 0, _ => rfl
  | n + 1, h => by
    simp only [td_n]
    rw [td_n_0 hm hq ht n (by omega), if_pos (show mk (ix n q t) = -1 from hm _ (ix_lt (by omega) hq ht))]
theorem fdiv_0 (d : Nat) : fdiv (nI 0) d = nI 0 := by
  unfold fdiv
  rw [show (nI 0).toInt = 0 from rfl, Int.zero_ediv]; rfl
theorem gr_all_0 : ∀ m, (∀ a, a < m → su a = nI 0) → gr_all su m = nI 0
  | 0, _ => rfl
  | m + 1, e => by simp only [gr_all]; rw [gr_all_0 m (fun a h => e a (by omega)), e m (by omega)]; rfl
theorem sh_open (hP : P ≤ 24) (h : S0 mk hd td su gr) : SH mk P hd td su gr := by
  obtain ⟨hm, h1, h2, h3, h4⟩ := h
  have k1 : ∀ q, q < P → ∀ t, t < 5 → toldC mk P q t = (-100000) := fun q hq t ht => by
    unfold toldC toldF; rw [if_pos (td_n_0 hm (by omega) ht 4 (Nat.le_refl 4))]
  have k2 : ∀ q, q < P → sumC mk P q = nI 0 := fun q hq => by
    unfold sumC
    simp only [sumC1]
    rw [k1 q hq 0 (by decide), k1 q hq 1 (by decide), k1 q hq 2 (by decide), k1 q hq 3 (by decide), k1 q hq 4 (by decide)]
    rfl
  refine ⟨fun j hj t ht => ?_, fun q hq t ht => ?_, fun q hq => ?_, fun q hq => ?_⟩
  · rw [h1 _ (by omega)]; unfold hardF; rw [if_pos (hd_n_0 hm hj ht P hP)]
  · rw [h2 _ (by omega), k1 q hq t ht]
  · rw [h3 q (by omega), k2 q hq]
  · rw [h4 q (by omega)]
    unfold gndC
    by_cases hP2 : P < 2
    · rw [if_pos hP2]
    · rw [if_neg hP2]
      unfold gr_v
      rw [gr_all_0 P k2, fdiv_0]
      have : gr_nb (sumC mk P) P q = nI 0 := by
        unfold gr_nb
        by_cases e0 : q = 0
        · rw [if_pos e0, k2 1 (by omega)]
        · by_cases e1 : q = P - 1
          · rw [if_neg e0, if_pos e1, k2 (q - 1) (by omega)]
          · rw [if_neg e0, if_neg e1, k2 (q - 1) (by omega), k2 (q + 1) (by omega)]
            exact fdiv_0 2
      rw [this]
      exact (fdiv_0 4).symm
theorem un_eq : ∀ m, m ≤ 5 → (∀ t, t < 5 → td (q * 5 + t) = toldC mk P q t) → un_n td q m = unC mk P q m
  | 0, _, _ => rfl
  | m + 1, h, e => by
    simp only [un_n, unC]
    rw [un_eq m (by omega) e, e m (by omega)]
theorem fin_eq {mi of_ : Nat → Int32} {al : Int32} (h : SH mk P hd td su gr) (hq : q < P) : fin su gr mi of_ al q = fin (sumC mk P) (gndC mk P) mi of_ al q := by
  unfold fin; rw [h.2.2.1 q hq, h.2.2.2 q hq]
theorem vl_eq {mi of_ ag : Nat → Int32} {pb : Nat → Nat} {al : Int32} {x z : Nat} (h : SH mk P hd td su gr) (hq : pb x < P) (hz : z ≤ 8) : vl ag pb su gr td mi of_ al x z = vlC mk P ag pb mi of_ al x z := by
  unfold vlC vl
  rw [fin_eq h hq, h.2.2.1 _ hq]
  by_cases h0 : z = 0
  · rw [if_pos h0, if_pos h0]
  · by_cases h1 : z = 1
    · rw [if_neg h0, if_neg h0, if_pos h1, if_pos h1]
    · by_cases h2 : z = 2
      · rw [if_neg h0, if_neg h0, if_neg h1, if_neg h1, if_pos h2, if_pos h2]
      · by_cases h3 : z = 3
        · rw [if_neg h0, if_neg h0, if_neg h1, if_neg h1, if_neg h2, if_neg h2, if_pos h3, if_pos h3]
        · rw [if_neg h0, if_neg h0, if_neg h1, if_neg h1, if_neg h2, if_neg h2, if_neg h3, if_neg h3, h.2.1 _ hq _ (by omega), tdC_at (by omega)]
end SHT
/-! how many MARKS there are -/
theorem ct_ge {mk : Nat → Int32} {i : Nat} {v : Int32} : ∀ m, m ≤ i → ct_m (upd mk i v) m = ct_m mk m
  | 0, _ => rfl
  | m + 1, h => by simp only [ct_m]; rw [ct_ge m (by omega), pk_un (by omega)]
theorem ct_upd {mk : Nat → Int32} {i : Nat} {v : Int32} : ∀ m, i < m → ct_m (upd mk i v) m + (if mk i < 0 then 0 else 1) = ct_m mk m + (if v < 0 then 0 else 1)
  | 0, h => absurd h (Nat.not_lt_zero _)
  | m + 1, h => by
    simp only [ct_m]
    by_cases e : i = m
    · subst e; rw [ct_ge i (Nat.le_refl i), pk_us]; omega
    · have := ct_upd (mk := mk) (v := v) m (by omega : i < m)
      rw [pk_un (by omega : m ≠ i)]; omega
theorem mkI_n {x : Int32} (h : x < 0 → x = -1) : mkI x = nI (if x < 0 then 0 else 1) := by
  unfold mkI
  by_cases e : x = -1
  · rw [if_pos e, if_pos (by rw [e]; decide)]
  · rw [if_neg e, if_neg (fun z => e (h z))]
theorem ct_sz {mk : Nat → Int32} {i : Nat} {v : Int32} (hmk : ∀ k, mk k < 0 → mk k = -1) (hv : v < 0 → v = -1) (hi : i < 480) : nI (ct_m mk 480) + (mkI v - mkI (mk i)) = nI (ct_m (upd mk i v) 480) := by
  have h := ct_upd (mk := mk) (v := v) 480 hi
  rw [mkI_n hv, mkI_n (hmk i)]
  generalize (if mk i < 0 then 0 else 1) = a at *
  generalize (if v < 0 then 0 else 1) = b at *
  have h2 : nI (ct_m (upd mk i v) 480) + nI a = nI (ct_m mk 480) + nI b := by rw [nI_add, nI_add, h]
  rw [Int32.sub_eq_add_neg, ← Int32.add_assoc, ← h2, Int32.add_assoc, Int32.add_right_neg, Int32.add_zero]
theorem ct_0 {mk : Nat → Int32} : ∀ m, (∀ k, k < m → mk k = -1) → ct_m mk m = 0
  | 0, _ => rfl
  | m + 1, h => by simp only [ct_m]; rw [ct_0 m (fun k hk => h k (by omega)), h m (by omega), if_pos (by decide)]
/-! the BOOK -/
section BOK
variable {lc ld lm kn g : Nat → Int32} {n dy : Nat}
theorem bk_cong {lc' ld' lm' : Nat → Int32} {cu d d' : Int32} : ∀ m, (∀ k, k < m → lc k = lc' k ∧ (ld k ≤ d ↔ ld' k ≤ d') ∧ lm k = lm' k) → bk_known lc ld lm cu d m = bk_known lc' ld' lm' cu d' m
  | 0, _ => rfl
  | m + 1, h => by
    simp only [bk_known]
    obtain ⟨h1, h2, h3⟩ := h m (by omega)
    rw [bk_cong m (fun k hk => h k (by omega)), h1, h3]
    simp only [h2]
/-- every line has its DAY, no later than today -/
def LD (ld : Nat → Int32) (n dy : Nat) : Prop := ∀ k, k < n → ∃ d, d ≤ dy ∧ ld k = nI d
theorem ld_le {k : Nat} (h : LD ld n dy) (hk : k < n) (hd : dy < 2 ^ 31) : ld k ≤ nI dy := by
  obtain ⟨d, h1, h2⟩ := h k hk
  rw [h2]; exact (nI_leI (by omega) hd).mpr h1
theorem LD.later {dy2 : Nat} (h : LD ld n dy) (h2 : dy ≤ dy2) : LD ld n dy2 := fun k hk => by
  obtain ⟨d, h3, h4⟩ := h k hk
  exact ⟨d, by omega, h4⟩
/-- what is known of each club today -/
def KNW (lc ld lm kn : Nat → Int32) (n dy : Nat) : Prop := ∀ c, c < 10 → kn c = bk_known lc ld lm (nI c) (nI dy) n
theorem KNW.later {dy2 : Nat} (h : KNW lc ld lm kn n dy) (hl : LD ld n dy) (h2 : dy ≤ dy2) (hd : dy2 < 2 ^ 31) : KNW lc ld lm kn n dy2 := fun c hc => by
  rw [h c hc]
  exact bk_cong n (fun k hk => ⟨rfl, ⟨fun _ => ld_le (hl.later h2) hk hd, fun _ => ld_le hl hk (by omega)⟩, rfl⟩)
theorem bk_lines (hl : LD ld n dy) (hk : KNW lc ld lm kn n dy) : ∀ c9, c9 ≤ 10 → LD (bk_f g n (fun _ => nI dy) ld c9) (bk_n g n c9) dy ∧ ∀ c, c < 10 → bk_known (bk_f g n (fun c => nI c) lc c9) (bk_f g n (fun _ => nI dy) ld c9) (bk_f g n (fun c => g c) lm c9) (nI c) (nI dy) (bk_n g n c9) = kn c + (if c < c9 then g c else 0)
  | 0, _ => ⟨hl, fun c hc => by rw [if_neg (by omega), Int32.add_zero, hk c hc]; rfl⟩
  | c9 + 1, h => by
    obtain ⟨h1, h2⟩ := bk_lines hl hk c9 (by omega)
    by_cases e : g c9 = 0
    · rw [bk_f_eq0 e, bk_f_eq0 e, bk_f_eq0 e, bk_n_eq0 e]
      refine ⟨h1, fun c hc => ?_⟩
      rw [h2 c hc]
      by_cases e2 : c = c9
      · subst e2; rw [if_neg (by omega), if_pos (by omega), e]
      · by_cases e3 : c < c9
        · rw [if_pos e3, if_pos (by omega)]
        · rw [if_neg e3, if_neg (by omega)]
    · rw [bk_f_ne0 e, bk_f_ne0 e, bk_f_ne0 e, bk_n_ne0 e]
      refine ⟨fun k hk9 => ?_, fun c hc => ?_⟩
      · by_cases e2 : k = bk_n g n c9
        · exact ⟨dy, Nat.le_refl dy, by rw [e2]; exact pk_us⟩
        · obtain ⟨d, h3, h4⟩ := h1 k (by omega)
          exact ⟨d, h3, by rw [pk_un e2]; exact h4⟩
      · simp only [bk_known]
        rw [pk_us, pk_us, pk_us, bk_cong (lc' := bk_f g n (fun c => nI c) lc c9) (ld' := bk_f g n (fun _ => nI dy) ld c9) (lm' := bk_f g n (fun c => g c) lm c9) (d' := nI dy) _ (fun k hk9 => by rw [pk_un (by omega), pk_un (by omega), pk_un (by omega)]; exact ⟨rfl, Iff.rfl, rfl⟩), h2 c hc]
        by_cases e2 : c = c9
        · subst e2
          rw [if_neg (show ¬ c < c by omega), if_pos (show c < c + 1 by omega), if_pos (show nI c = nI c ∧ nI dy ≤ nI dy from ⟨rfl, by rw [Int32.le_iff_toInt_le]; omega⟩), Int32.add_zero]
        · rw [if_neg (show ¬ (nI c9 = nI c ∧ nI dy ≤ nI dy) from fun z => e2 ((nI_eq (by omega) (by omega)).mp z.1).symm), Int32.add_zero]
          by_cases e3 : c < c9
          · rw [if_pos e3, if_pos (by omega)]
          · rw [if_neg e3, if_neg (by omega)]
theorem bk_pub {pts : Nat → Int32} (hl : LD ld n dy) (hk : KNW lc ld lm kn n dy) : LD (bk_f (bk_g pts kn) n (fun _ => nI dy) ld 10) (bk_n (bk_g pts kn) n 10) dy ∧ KNW (bk_f (bk_g pts kn) n (fun c => nI c) lc 10) (bk_f (bk_g pts kn) n (fun _ => nI dy) ld 10) (bk_f (bk_g pts kn) n (fun c => bk_g pts kn c) lm 10) (bk_fill pts kn 10) (bk_n (bk_g pts kn) n 10) dy := by
  obtain ⟨h1, h2⟩ := bk_lines (g := bk_g pts kn) hl hk 10 (Nat.le_refl 10)
  refine ⟨h1, fun c hc => ?_⟩
  rw [h2 c hc, if_pos hc]
  show (if c < 10 then pts c else kn c) = kn c + (pts c - kn c)
  rw [if_pos hc, Int32.sub_eq_add_neg, Int32.add_comm (pts c), ← Int32.add_assoc, Int32.add_right_neg, Int32.zero_add]
end BOK
