/-- on, while P holds, as far as L -/
def rn (P : Nat → Bool) (L : Nat) : Nat → Nat → Nat
  | 0, a => a
  | f + 1, a => if a < L ∧ P a = true then rn P L f (a + 1) else a
def rnA (P : Nat → Bool) (L a : Nat) : Nat := rn P L (L - a) a
theorem rnA_stop {P : Nat → Bool} {L a : Nat} (h : ¬ (a < L ∧ P a = true)) : rnA P L a = a := by
  unfold rnA
  cases L - a with
  | zero => rfl
  | succ f => simp only [rn, if_neg h]
theorem rnA_step {P : Nat → Bool} {L a : Nat} (h : a < L) (hP : P a = true) : rnA P L a = rnA P L (a + 1) := by
  unfold rnA
  rw [show L - a = L - (a + 1) + 1 by omega]
  simp only [rn, if_pos (And.intro h hP)]
theorem rn_ge (P : Nat → Bool) (L : Nat) : ∀ f a, a ≤ rn P L f a
  | 0, a => Nat.le_refl a
  | f + 1, a => by
    simp only [rn]
    split
    · exact Nat.le_trans (Nat.le_succ a) (rn_ge P L f (a + 1))
    · exact Nat.le_refl a
theorem rn_le (P : Nat → Bool) (L : Nat) : ∀ f a, a ≤ L → rn P L f a ≤ L
  | 0, a, h => h
  | f + 1, a, h => by
    simp only [rn]
    split
    · rename_i h1; exact rn_le P L f (a + 1) h1.1
    · exact h
theorem rnA_ge (P : Nat → Bool) (L a : Nat) : a ≤ rnA P L a := rn_ge P L _ a
theorem rnA_le (P : Nat → Bool) {L a : Nat} (h : a ≤ L) : rnA P L a ≤ L := rn_le P L _ a h
def bl (b : Nat → Nat) : Nat → Bool := fun k => decide (b k = 32)
def lr (b : Nat → Nat) : Nat → Bool := fun k => decide (97 ≤ b k ∧ b k ≤ 122)
def skB (b : Nat → Nat) (L a : Nat) : Nat := rnA (bl b) L a
def wdE (b : Nat → Nat) (L a : Nat) : Nat := rnA (lr b) L a
theorem skB_ge (b : Nat → Nat) (L a : Nat) : a ≤ skB b L a := rnA_ge _ L a
theorem skB_le (b : Nat → Nat) {L a : Nat} (h : a ≤ L) : skB b L a ≤ L := rnA_le _ h
theorem wdE_ge (b : Nat → Nat) (L a : Nat) : a ≤ wdE b L a := rnA_ge _ L a
theorem wdE_le (b : Nat → Nat) {L a : Nat} (h : a ≤ L) : wdE b L a ≤ L := rnA_le _ h
/-- the letters' numbers -/
def st_n (i k : Nat) : Nat := (([[102, 105, 110, 97, 108], [115, 117, 109], [109, 105, 110, 117, 116, 101, 115], [97, 103, 101], [112, 97, 114, 116], [117, 112], [100, 111, 119, 110]] : List (List Nat)).getD i []).getD k 0
theorem st_n_ch : ∀ i, i < 7 → ∀ k, k < amb_lens.getD i 0 → st_ch i k = nI (st_n i k) := by decide +kernel
theorem st_n_let : ∀ i, i < 7 → ∀ k, k < amb_lens.getD i 0 → 97 ≤ st_n i k ∧ st_n i k ≤ 122 := by decide +kernel
def wEq (b : Nat → Nat) (ws i : Nat) : Nat → Bool
  | 0 => true
  | k + 1 => wEq b ws i k && decide (b (ws + k) = st_n i k)
theorem wEq_no {b : Nat → Nat} {ws i k : Nat} (h : b (ws + k) ≠ st_n i k) : ∀ n, k < n → wEq b ws i n = false
  | 0, hk => absurd hk (Nat.not_lt_zero k)
  | n + 1, hk => by
    simp only [wEq]
    by_cases e : k = n
    · subst e; simp [h]
    · rw [wEq_no h n (by omega)]; rfl
def isW (b : Nat → Nat) (ws ap i : Nat) : Bool := decide (ap - ws = amb_lens.getD i 0) && wEq b ws i (amb_lens.getD i 0)
theorem isW_t {b : Nat → Nat} {ws ap i : Nat} (h : ap - ws = amb_lens.getD i 0) (h2 : wEq b ws i (amb_lens.getD i 0) = true) : isW b ws ap i = true := by
  unfold isW; rw [decide_eq_true h, h2]; rfl
theorem isW_f1 {b : Nat → Nat} {ws ap i : Nat} (h : ¬ ap - ws = amb_lens.getD i 0) : isW b ws ap i = false := by
  unfold isW; rw [decide_eq_false h]; rfl
theorem isW_f2 {b : Nat → Nat} {ws ap i : Nat} (h : wEq b ws i (amb_lens.getD i 0) = false) : isW b ws ap i = false := by
  unfold isW; rw [h, Bool.and_false]
/-- a KEY's measure: its number and the place behind it -/
def rm (b : Nat → Nat) (L a : Nat) : Option (Nat × Nat) :=
  if isW b (skB b L a) (wdE b L (skB b L a)) 0 = true then some (0, wdE b L (skB b L a))
  else if isW b (skB b L a) (wdE b L (skB b L a)) 1 = true then some (1, wdE b L (skB b L a))
  else if isW b (skB b L a) (wdE b L (skB b L a)) 2 = true then some (2, wdE b L (skB b L a))
  else if isW b (skB b L a) (wdE b L (skB b L a)) 3 = true then some (3, wdE b L (skB b L a))
  else if isW b (skB b L a) (wdE b L (skB b L a)) 4 = true then
    (if skB b L (wdE b L (skB b L a)) < L ∧ 48 ≤ b (skB b L (wdE b L (skB b L a))) ∧ b (skB b L (wdE b L (skB b L a))) < 53 then some (4 + (b (skB b L (wdE b L (skB b L a))) - 48), skB b L (wdE b L (skB b L a)) + 1) else none)
  else none
def rmF (b : Nat → Nat) (L a : Nat) : Nat := if isW b (skB b L a) (wdE b L (skB b L a)) 4 = true then skB b L (wdE b L (skB b L a)) else skB b L a
def prK (b : Nat → Nat) (L a : Nat) : Option ((Nat × Bool) × Nat) := match rm b L a with
  | none => none
  | some q => if isW b (skB b L q.2) (wdE b L (skB b L q.2)) 5 = true then some ((q.1, true), wdE b L (skB b L q.2))
    else if isW b (skB b L q.2) (wdE b L (skB b L q.2)) 6 = true then some ((q.1, false), wdE b L (skB b L q.2)) else none
def prF (b : Nat → Nat) (L a : Nat) : Nat := match rm b L a with
  | none => rmF b L a
  | some q => skB b L q.2
/-- the KEYS of a text, or none, and the place -/
theorem rm_part {b : Nat → Nat} {L a mz a1 : Nat} (hr : rm b L a = some (mz, a1)) (h0 : isW b (skB b L a) (wdE b L (skB b L a)) 0 = false) (h1 : isW b (skB b L a) (wdE b L (skB b L a)) 1 = false) (h2 : isW b (skB b L a) (wdE b L (skB b L a)) 2 = false) (h3 : isW b (skB b L a) (wdE b L (skB b L a)) 3 = false) (h4 : isW b (skB b L a) (wdE b L (skB b L a)) 4 = true) :
    skB b L (wdE b L (skB b L a)) < L ∧ 48 ≤ b (skB b L (wdE b L (skB b L a))) ∧ b (skB b L (wdE b L (skB b L a))) < 53 := by
  by_cases h : skB b L (wdE b L (skB b L a)) < L ∧ 48 ≤ b (skB b L (wdE b L (skB b L a))) ∧ b (skB b L (wdE b L (skB b L a))) < 53
  · exact h
  · unfold rm at hr
    rw [h0, h1, h2, h3, h4, if_neg h] at hr
    simp at hr
theorem rm_part_no {b : Nat → Nat} {L a : Nat} (hr : rm b L a = none) (h0 : isW b (skB b L a) (wdE b L (skB b L a)) 0 = false) (h1 : isW b (skB b L a) (wdE b L (skB b L a)) 1 = false) (h2 : isW b (skB b L a) (wdE b L (skB b L a)) 2 = false) (h3 : isW b (skB b L a) (wdE b L (skB b L a)) 3 = false) (h4 : isW b (skB b L a) (wdE b L (skB b L a)) 4 = true) :
    ¬ (skB b L (wdE b L (skB b L a)) < L ∧ 48 ≤ b (skB b L (wdE b L (skB b L a))) ∧ b (skB b L (wdE b L (skB b L a))) < 53) := by
  intro h
  unfold rm at hr
  rw [h0, h1, h2, h3, h4, if_pos h] at hr
  simp at hr
theorem nI_neg1 {a : Nat} (h : a < 2 ^ 31) : ¬ nI a = -1 := by
  intro e
  have h1 := nI_pos h
  rw [e] at h1
  exact h1 (by decide)
def prs (b : Nat → Nat) (L : Nat) : Nat → List (Nat × Bool) → Nat → Option (List (Nat × Bool)) × Nat
  | 0, _, a => (none, a)
  | f + 1, acc, a => match prK b L a with
    | none => (none, prF b L a)
    | some q => if L ≤ skB b L q.2 then (some (acc ++ [q.1]), skB b L q.2)
      else if b (skB b L q.2) = 44 ∧ f ≠ 0 then prs b L f (acc ++ [q.1]) (skB b L q.2 + 1) else (none, skB b L q.2)
theorem prs_s {b : Nat → Nat} {L k a : Nat} {acc : List (Nat × Bool)} (hk : k ≤ 5) : prs b L (6 - k) acc a = match prK b L a with
    | none => (none, prF b L a)
    | some q => if L ≤ skB b L q.2 then (some (acc ++ [q.1]), skB b L q.2)
      else if b (skB b L q.2) = 44 ∧ k ≠ 5 then prs b L (6 - (k + 1)) (acc ++ [q.1]) (skB b L q.2 + 1) else (none, skB b L q.2) := by
  rw [show 6 - k = (5 - k) + 1 by omega]
  simp only [prs]
  rw [show 6 - (k + 1) = 5 - k by omega]
  cases prK b L a with
  | none => rfl
  | some q =>
    have e : (b (skB b L q.2) = 44 ∧ 5 - k ≠ 0) ↔ (b (skB b L q.2) = 44 ∧ k ≠ 5) := ⟨fun h => ⟨h.1, by omega⟩, fun h => ⟨h.1, by omega⟩⟩
    simp only [e]
theorem prs_app {acc : List (Nat × Bool)} {k mz : Nat} {u : Bool} {ms : Nat → Nat} {up : Nat → Bool} (hn : acc.length = k) (hq : ∀ i q, acc[i]? = some q → ms i = q.1 ∧ up i = q.2) : ∀ i q, (acc ++ [(mz, u)])[i]? = some q → va_up ms k mz i = q.1 ∧ va_up up k u i = q.2 := by
  intro i q h
  by_cases hi : i < acc.length
  · rw [List.getElem?_append_left hi] at h
    rw [va_up_ne _ _ (by omega), va_up_ne _ _ (by omega)]
    exact hq i q h
  · rw [List.getElem?_append_right (by omega)] at h
    have hz : i - acc.length < 1 := (List.getElem?_eq_some_iff.mp h).1
    have hi2 : i = k := by omega
    subst hi2
    rw [show i - acc.length = 0 by omega] at h
    cases h
    rw [va_up_self, va_up_self]
    exact ⟨rfl, rfl⟩
theorem rm_le {b : Nat → Nat} {L a : Nat} (h : a ≤ L) {q : Nat × Nat} (e : rm b L a = some q) : a ≤ q.2 ∧ q.2 ≤ L ∧ q.1 ≤ 8 := by
  have h1 := skB_ge b L a
  have h2 := skB_le b h
  have h3 := wdE_ge b L (skB b L a)
  have h4 := wdE_le b h2
  have h5 := skB_ge b L (wdE b L (skB b L a))
  simp only [rm] at e
  split at e
  · cases e; exact ⟨by dsimp only; omega, h4, by dsimp only; omega⟩
  · split at e
    · cases e; exact ⟨by dsimp only; omega, h4, by dsimp only; omega⟩
    · split at e
      · cases e; exact ⟨by dsimp only; omega, h4, by dsimp only; omega⟩
      · split at e
        · cases e; exact ⟨by dsimp only; omega, h4, by dsimp only; omega⟩
        · split at e
          · split at e
            · cases e; dsimp only; omega
            · cases e
          · cases e
theorem rmF_le {b : Nat → Nat} {L a : Nat} (h : a ≤ L) : rmF b L a ≤ L := by
  have h2 := skB_le b h
  have h4 := wdE_le b h2
  unfold rmF
  split
  · exact skB_le b h4
  · exact h2
theorem prK_inv {b : Nat → Nat} {L a : Nat} {q : Nat × Bool} {a1 : Nat} (e : prK b L a = some (q, a1)) : ∃ a2, rm b L a = some (q.1, a2) ∧ a1 = wdE b L (skB b L a2) ∧ ((isW b (skB b L a2) (wdE b L (skB b L a2)) 5 = true ∧ q.2 = true) ∨ (isW b (skB b L a2) (wdE b L (skB b L a2)) 5 = false ∧ isW b (skB b L a2) (wdE b L (skB b L a2)) 6 = true ∧ q.2 = false)) := by
  unfold prK at e
  cases hr : rm b L a with
  | none => rw [hr] at e; cases e
  | some z =>
    rw [hr] at e
    dsimp only at e
    refine ⟨z.2, ?_⟩
    split at e
    · rename_i h5; cases e; exact ⟨rfl, rfl, Or.inl ⟨h5, rfl⟩⟩
    · rename_i h5
      split at e
      · rename_i h6; cases e; exact ⟨rfl, rfl, Or.inr ⟨by simpa using h5, h6, rfl⟩⟩
      · cases e
theorem prK_le {b : Nat → Nat} {L a : Nat} (h : a ≤ L) {q : Nat × Bool} {a1 : Nat} (e : prK b L a = some (q, a1)) : a ≤ a1 ∧ a1 ≤ L ∧ q.1 ≤ 8 := by
  obtain ⟨a2, h1, rfl, -⟩ := prK_inv e
  obtain ⟨h2, h3, h4⟩ := rm_le h h1
  have h5 := skB_ge b L a2
  have h6 := skB_le b h3
  have h7 := wdE_ge b L (skB b L a2)
  exact ⟨by dsimp only at *; omega, wdE_le b h6, h4⟩
theorem prF_le {b : Nat → Nat} {L a : Nat} (h : a ≤ L) : prF b L a ≤ L := by
  unfold prF
  cases hr : rm b L a with
  | none => exact rmF_le h
  | some q => exact skB_le b (rm_le h hr).2.1
theorem prs_le {b : Nat → Nat} {L : Nat} : ∀ f acc a, a ≤ L → (prs b L f acc a).2 ≤ L
  | 0, _, a, h => h
  | f + 1, acc, a, h => by
    simp only [prs]
    cases hk : prK b L a with
    | none => exact prF_le h
    | some q =>
      obtain ⟨q1, q2⟩ := q
      have h1 := prK_le h hk
      have h2 := skB_le b h1.2.1
      dsimp only
      split
      · exact h2
      · split
        · exact prs_le f _ _ (by omega)
        · exact h2
def rm_c_X6_place : Room := { frames := 0, cells := 0, slots := 0, locals := 0 }
set_option maxHeartbeats 4000000 in
set_option maxRecDepth 100000 in
theorem c_X6_place (l : Launch) (D : va_G) (cI cZ cB cJ : ClassId) (b0 : Nat) (adK adV : Nat → Nat) (r0 t0 d0 t1 : Nat) (b : Nat → Nat) (L : Nat) (ap : Nat) (wp : Nat) : Mi l yX6_place wsX6_place rm_c_X6_place D (TYs cI cZ cB cJ) b0 adK adV [.ref r0] [(r0, .inr (6, [.ref t0, .ref d0, .int (nI L), .int (nI ap), .int (nI wp)])), (t0, .inr (8, [.ref t1, .int (nI L)])), (t1, .inl (cI, 100, .inl (nF b)))] (fun (r : Int32) (w : va_W) => r = nI ap ∧ w = [(r0, .inr (6, [.ref t0, .ref d0, .int (nI L), .int (nI ap), .int (nI wp)])), (t0, .inr (8, [.ref t1, .int (nI L)])), (t1, .inl (cI, 100, .inl (nF b)))]) 0 0 := by
  refine e_M (Qf := fun A => va_Qi (fun (r : Int32) (w : va_W) => r = nI ap ∧ w = [(r0, .inr (6, [.ref t0, .ref d0, .int (nI L), .int (nI ap), .int (nI wp)])), (t0, .inr (8, [.ref t1, .int (nI L)])), (t1, .inl (cI, 100, .inl (nF b)))]) (Bw D A) A) (cc := cX6_place) (maxL := 1) (ret := (some .int)) (by decide) rfl (Nat.le_of_ble_eq_true rfl) ?_
  intro p e s m args below meth c ls A Q H locs hx hb hr hml hts hown hlk hnm hc hw hl hQ
  have hl : lv_has ls 1 [(0, .ref r0)] := hl
  have in_6 : ∀ w ∈ u_ws RX6 TX6 5, w ∈ wsX6_place := fun _ h => List.mem_cons_of_mem _ (List.mem_append_right _ h)
  have lk_0 := hts (.fieldLink RX6 22 "PloughingMatch$RuleReader" "at" "I") (List.mem_of_getElem? (i := 1) rfl)
  refine lv_aload_n hx hb dX6_place_0 rfl (lv_at hl 0 rfl) ?_
  refine w_get (C := RX6) (T := TX6) (N := 5) (ci := 6) hx hb hts in_6 hown hc hw 0 3 rfl rfl (by decide) lk_0 rfl dX6_place_1 ?_
  subst hQ
  exact r_i hx hb hr rfl hlk hw ⟨rfl, rfl⟩ dX6_place_4
def rm_c_X6_skipBlanks : Room := { frames := 1, cells := 0, slots := 0, locals := 21 }
set_option maxHeartbeats 4000000 in
set_option maxRecDepth 100000 in
theorem c_X6_skipBlanks (l : Launch) (D : va_G) (cI cZ cB cJ : ClassId) (b0 : Nat) (adK adV : Nat → Nat) (r0 t0 d0 t1 : Nat) (b : Nat → Nat) (L : Nat) (ap : Nat) (wp : Nat) (hL : L ≤ 100) (ha : ap ≤ L) (hB : ∀ k, b k < 256) : Mv l yX6_skipBlanks wsX6_skipBlanks rm_c_X6_skipBlanks D (TYs cI cZ cB cJ) b0 adK adV [.ref r0] [(r0, .inr (6, [.ref t0, .ref d0, .int (nI L), .int (nI ap), .int (nI wp)])), (t0, .inr (8, [.ref t1, .int (nI L)])), (t1, .inl (cI, 100, .inl (nF b)))] (fun w : va_W => w = [(r0, .inr (6, [.ref t0, .ref d0, .int (nI L), .int (nI (skB b L ap)), .int (nI wp)])), (t0, .inr (8, [.ref t1, .int (nI L)])), (t1, .inl (cI, 100, .inl (nF b)))]) 0 0 := by
  refine e_M (Qf := fun A => va_Qv (fun w : va_W => w = [(r0, .inr (6, [.ref t0, .ref d0, .int (nI L), .int (nI (skB b L ap)), .int (nI wp)])), (t0, .inr (8, [.ref t1, .int (nI L)])), (t1, .inl (cI, 100, .inl (nF b)))]) (Bw D A) A) (cc := cX6_skipBlanks) (maxL := 1) (ret := none) (by decide) rfl (Nat.le_of_ble_eq_true rfl) ?_
  intro p e s m args below meth c ls A Q H locs hx hb hr hml hts hown hlk hnm hc hw hl hQ
  have hl : lv_has ls 1 [(0, .ref r0)] := hl
  have in_6 : ∀ w ∈ u_ws RX6 TX6 5, w ∈ wsX6_skipBlanks := fun _ h => List.mem_cons_of_mem _ (List.mem_append_left _ (List.mem_append_right _ h))
  have lk_0 := hts (.fieldLink RX6 22 "PloughingMatch$RuleReader" "at" "I") (List.mem_of_getElem? (i := 1) rfl)
  have lk_1 := hts (.fieldLink RX6 18 "PloughingMatch$RuleReader" "length" "I") (List.mem_of_getElem? (i := 2) rfl)
  have lk_2 := hts (.fieldLink RX6 28 "PloughingMatch$RuleReader" "tape" "LPloughingMatch$Tape;") (List.mem_of_getElem? (i := 3) rfl)
  have key0 : ∀ (fuel : Nat) (a : Nat), a ≤ L → rnA (bl b) L ap = rnA (bl b) L a → L - a < fuel → ∀ (H : Heap) (locs : List Loc) (ls : Array Slot), Wd D A s H locs [(r0, .inr (6, [.ref t0, .ref d0, .int (nI L), .int (nI a), .int (nI wp)])), (t0, .inr (8, [.ref t1, .int (nI L)])), (t1, .inl (cI, 100, .inl (nF b)))] → lv_has ls 1 [(0, .ref r0)] → W p l e rm_c_X6_skipBlanks s m args below meth c H locs 0 0 Q (F0 m 0 ls []) := by
    intro fuel
    induction fuel with
    | zero => intro a hq e1 hfu; exact absurd hfu (Nat.not_lt_zero _)
    | succ fuel ih =>
      intro a hq e1 hfu H locs ls hw hl
      have ih0 := ih
      refine lv_aload_n hx hb dX6_skipBlanks_0 rfl (lv_at hl 0 rfl) ?_
      refine w_get (C := RX6) (T := TX6) (N := 5) (ci := 6) hx hb hts in_6 hown hc hw 0 3 rfl rfl (by decide) lk_0 rfl dX6_skipBlanks_1 ?_
      refine lv_aload_n hx hb dX6_skipBlanks_4 rfl (lv_at hl 0 rfl) ?_
      refine w_get (C := RX6) (T := TX6) (N := 5) (ci := 6) hx hb hts in_6 hown hc hw 0 2 rfl rfl (by decide) lk_1 rfl dX6_skipBlanks_5 ?_
      refine wb_icmp_ge (tgt := 40) hx hb (by omega) (by omega) dX6_skipBlanks_8 (by decide) (fun c_1 => ?_) (fun c_1 => ?_)
      · skip
        subst hQ
        exact r_v hx hb hr hlk hw (by rw [show skB b L ap = a from e1.trans (rnA_stop (by simp [bl, c_1]; try omega))]) dX6_skipBlanks_40
      · skip
        refine lv_aload_n hx hb dX6_skipBlanks_11 rfl (lv_at hl 0 rfl) ?_
        refine w_get (C := RX6) (T := TX6) (N := 5) (ci := 6) hx hb hts in_6 hown hc hw 0 0 rfl rfl (by decide) lk_2 rfl dX6_skipBlanks_12 ?_
        refine lv_aload_n hx hb dX6_skipBlanks_15 rfl (lv_at hl 0 rfl) ?_
        refine w_get (C := RX6) (T := TX6) (N := 5) (ci := 6) hx hb hts in_6 hown hc hw 0 3 rfl rfl (by decide) lk_0 rfl dX6_skipBlanks_16 ?_
        refine k_i (wr := [(r0, .inr (6, [.ref t0, .ref d0, .int (nI L), .int (nI a), .int (nI wp)]))]) (j_V ⟨hx, hb, hml, hown, hts⟩ (c_X8_byteAt l D cI cZ cB cJ b0 adK adV t0 t1 b L a (by omega) (by omega) H.size) (cwV 1 hts gX6_skipBlanks_X8_byteAt rfl rfl rfl (by decide +kernel) ⟨by decide, by decide⟩) hc hw [1, 2] rfl rfl 8 1 rfl rfl rfl rfl hl.1 rfl (Nat.le_of_ble_eq_true rfl) dX6_skipBlanks_19 ⟨by decide, by decide⟩) hc hw [1, 2] [0] rfl rfl (by decide) (by decide) (fun r w H locs hq hw => ?_)
        obtain ⟨rfl, rfl⟩ := hq
        have hw : Wd D A s H locs [(r0, .inr (6, [.ref t0, .ref d0, .int (nI L), .int (nI a), .int (nI wp)])), (t0, .inr (8, [.ref t1, .int (nI L)])), (t1, .inl (cI, 100, .inl (nF b)))] := hw
        refine lv_bipush (v := nI 32) hx hb dX6_skipBlanks_22 (by decide) ?_
        refine wb_icmp_ne (tgt := 40) hx hb (by have := hB a; omega) (by omega) dX6_skipBlanks_24 (by decide) (fun c_2 => ?_) (fun c_2 => ?_)
        · skip
          subst hQ
          exact r_v hx hb hr hlk hw (by rw [show skB b L ap = a from e1.trans (rnA_stop (by simp [bl, c_1, c_2]; try omega))]) dX6_skipBlanks_40
        · skip
          refine lv_aload_n hx hb dX6_skipBlanks_27 rfl (lv_at hl 0 rfl) ?_
          refine lv_dup hx hb dX6_skipBlanks_28 rfl ?_
          refine w_get (C := RX6) (T := TX6) (N := 5) (ci := 6) hx hb hts in_6 hown hc hw 0 3 rfl rfl (by decide) lk_0 rfl dX6_skipBlanks_29 ?_
          refine lv_iconst (v := nI 1) hx hb dX6_skipBlanks_32 (by decide) ?_
          refine wn_iadd hx hb dX6_skipBlanks_33 ?_
          refine w_put (C := RX6) (T := TX6) (N := 5) (ci := 6) (v := .int (nI (a + 1))) (ws1 := [(r0, .inr (6, [.ref t0, .ref d0, .int (nI L), .int (nI (a + 1)), .int (nI wp)])), (t0, .inr (8, [.ref t1, .int (nI L)])), (t1, .inl (cI, 100, .inl (nF b)))]) hx hb hts in_6 tyX6 tyX6_ok nmX6 hown hc hw 0 3 rfl rfl (by decide) lk_0 rfl rfl rfl (Nat.le_of_ble_eq_true rfl) rfl dX6_skipBlanks_34 (fun H locs hw => ?_)
          refine lv_goto (tgt := 0) hx hb dX6_skipBlanks_37 (by decide) ?_
          exact ih0 (a + 1) (by omega) (by rw [e1]; exact rnA_step (by omega) (by simp [bl, c_1, c_2])) (by omega) _ _ _ hw (lv_sub hl [0] rfl)
  exact key0 (L - ap + 1) ap (by omega) rfl (Nat.lt_succ_self _) _ _ _ hw (lv_sub hl [0] rfl)
def rm_c_X6_readWord : Room := { frames := 2, cells := 0, slots := 0, locals := 41 }
set_option maxHeartbeats 4000000 in
set_option maxRecDepth 100000 in
theorem c_X6_readWord (l : Launch) (D : va_G) (cI cZ cB cJ : ClassId) (b0 : Nat) (adK adV : Nat → Nat) (r0 t0 d0 t1 : Nat) (b : Nat → Nat) (L : Nat) (ap : Nat) (wp : Nat) (hL : L ≤ 100) (ha : ap ≤ L) (hB : ∀ k, b k < 256) : Mv l yX6_readWord wsX6_readWord rm_c_X6_readWord D (TYs cI cZ cB cJ) b0 adK adV [.ref r0] [(r0, .inr (6, [.ref t0, .ref d0, .int (nI L), .int (nI ap), .int (nI wp)])), (t0, .inr (8, [.ref t1, .int (nI L)])), (t1, .inl (cI, 100, .inl (nF b)))] (fun w : va_W => w = [(r0, .inr (6, [.ref t0, .ref d0, .int (nI L), .int (nI (wdE b L (skB b L ap))), .int (nI (skB b L ap))])), (t0, .inr (8, [.ref t1, .int (nI L)])), (t1, .inl (cI, 100, .inl (nF b)))]) 0 0 := by
  refine e_M (Qf := fun A => va_Qv (fun w : va_W => w = [(r0, .inr (6, [.ref t0, .ref d0, .int (nI L), .int (nI (wdE b L (skB b L ap))), .int (nI (skB b L ap))])), (t0, .inr (8, [.ref t1, .int (nI L)])), (t1, .inl (cI, 100, .inl (nF b)))]) (Bw D A) A) (cc := cX6_readWord) (maxL := 1) (ret := none) (by decide) rfl (Nat.le_of_ble_eq_true rfl) ?_
  intro p e s m args below meth c ls A Q H locs hx hb hr hml hts hown hlk hnm hc hw hl hQ
  have hl : lv_has ls 1 [(0, .ref r0)] := hl
  have in_6 : ∀ w ∈ u_ws RX6 TX6 5, w ∈ wsX6_readWord := fun _ h => List.mem_cons_of_mem _ (List.mem_append_left _ (List.mem_append_right _ h))
  have lk_0 := hts (.fieldLink RX6 22 "PloughingMatch$RuleReader" "at" "I") (List.mem_of_getElem? (i := 1) rfl)
  have lk_1 := hts (.fieldLink RX6 25 "PloughingMatch$RuleReader" "wordStart" "I") (List.mem_of_getElem? (i := 2) rfl)
  have lk_2 := hts (.fieldLink RX6 18 "PloughingMatch$RuleReader" "length" "I") (List.mem_of_getElem? (i := 3) rfl)
  have lk_3 := hts (.fieldLink RX6 28 "PloughingMatch$RuleReader" "tape" "LPloughingMatch$Tape;") (List.mem_of_getElem? (i := 4) rfl)
  refine lv_aload_n hx hb dX6_readWord_0 rfl (lv_at hl 0 rfl) ?_
  refine k_v (wr := []) (j_V ⟨hx, hb, hml, hown, hts⟩ (c_X6_skipBlanks l D cI cZ cB cJ b0 adK adV r0 t0 d0 t1 b L ap wp (by omega) (by omega) hB H.size) (cwV 0 hts gX6_readWord_X6_skipBlanks rfl rfl rfl (by decide +kernel) ⟨by decide, by decide⟩) hc hw [0, 1, 2] rfl rfl 6 0 rfl rfl rfl rfl hl.1 rfl (Nat.le_of_ble_eq_true rfl) dX6_readWord_1 ⟨by decide, by decide⟩) hc hw [0, 1, 2] [] rfl rfl (by decide) (by decide) (fun  w H locs hq hw => ?_)
  subst hq
  have hw : Wd D A s H locs [(r0, .inr (6, [.ref t0, .ref d0, .int (nI L), .int (nI (skB b L ap)), .int (nI wp)])), (t0, .inr (8, [.ref t1, .int (nI L)])), (t1, .inl (cI, 100, .inl (nF b)))] := hw
  have hs := skB_le b ha
  refine lv_aload_n hx hb dX6_readWord_4 rfl (lv_at hl 0 rfl) ?_
  refine lv_aload_n hx hb dX6_readWord_5 rfl (lv_at hl 0 rfl) ?_
  refine w_get (C := RX6) (T := TX6) (N := 5) (ci := 6) hx hb hts in_6 hown hc hw 0 3 rfl rfl (by decide) lk_0 rfl dX6_readWord_6 ?_
  refine w_put (C := RX6) (T := TX6) (N := 5) (ci := 6) (v := .int (nI (skB b L ap))) (ws1 := [(r0, .inr (6, [.ref t0, .ref d0, .int (nI L), .int (nI (skB b L ap)), .int (nI (skB b L ap))])), (t0, .inr (8, [.ref t1, .int (nI L)])), (t1, .inl (cI, 100, .inl (nF b)))]) hx hb hts in_6 tyX6 tyX6_ok nmX6 hown hc hw 0 4 rfl rfl (by decide) lk_1 rfl rfl rfl (Nat.le_of_ble_eq_true rfl) rfl dX6_readWord_9 (fun H locs hw => ?_)
  have key12 : ∀ (fuel : Nat) (a : Nat), a ≤ L → rnA (lr b) L (skB b L ap) = rnA (lr b) L a → L - a < fuel → ∀ (H : Heap) (locs : List Loc) (ls : Array Slot), Wd D A s H locs [(r0, .inr (6, [.ref t0, .ref d0, .int (nI L), .int (nI a), .int (nI (skB b L ap))])), (t0, .inr (8, [.ref t1, .int (nI L)])), (t1, .inl (cI, 100, .inl (nF b)))] → lv_has ls 1 [(0, .ref r0)] → W p l e rm_c_X6_readWord s m args below meth c H locs 0 0 Q (F0 m 12 ls []) := by
    intro fuel
    induction fuel with
    | zero => intro a hq e1 hfu; exact absurd hfu (Nat.not_lt_zero _)
    | succ fuel ih =>
      intro a hq e1 hfu H locs ls hw hl
      have ih12 := ih
      refine lv_aload_n hx hb dX6_readWord_12 rfl (lv_at hl 0 rfl) ?_
      refine w_get (C := RX6) (T := TX6) (N := 5) (ci := 6) hx hb hts in_6 hown hc hw 0 3 rfl rfl (by decide) lk_0 rfl dX6_readWord_13 ?_
      refine lv_aload_n hx hb dX6_readWord_16 rfl (lv_at hl 0 rfl) ?_
      refine w_get (C := RX6) (T := TX6) (N := 5) (ci := 6) hx hb hts in_6 hown hc hw 0 2 rfl rfl (by decide) lk_2 rfl dX6_readWord_17 ?_
      refine wb_icmp_ge (tgt := 68) hx hb (by omega) (by omega) dX6_readWord_20 (by decide) (fun c_1 => ?_) (fun c_1 => ?_)
      · skip
        subst hQ
        exact r_v hx hb hr hlk hw (by rw [show wdE b L (skB b L ap) = a from e1.trans (rnA_stop (by simp [lr, c_1]; try omega))]) dX6_readWord_68
      · skip
        refine lv_aload_n hx hb dX6_readWord_23 rfl (lv_at hl 0 rfl) ?_
        refine w_get (C := RX6) (T := TX6) (N := 5) (ci := 6) hx hb hts in_6 hown hc hw 0 0 rfl rfl (by decide) lk_3 rfl dX6_readWord_24 ?_
        refine lv_aload_n hx hb dX6_readWord_27 rfl (lv_at hl 0 rfl) ?_
        refine w_get (C := RX6) (T := TX6) (N := 5) (ci := 6) hx hb hts in_6 hown hc hw 0 3 rfl rfl (by decide) lk_0 rfl dX6_readWord_28 ?_
        refine k_i (wr := [(r0, .inr (6, [.ref t0, .ref d0, .int (nI L), .int (nI a), .int (nI (skB b L ap))]))]) (j_V ⟨hx, hb, hml, hown, hts⟩ (c_X8_byteAt l D cI cZ cB cJ b0 adK adV t0 t1 b L a (by omega) (by omega) H.size) (cwV 1 hts gX6_readWord_X8_byteAt rfl rfl rfl (by decide +kernel) ⟨by decide, by decide⟩) hc hw [1, 2] rfl rfl 8 1 rfl rfl rfl rfl hl.1 rfl (Nat.le_of_ble_eq_true rfl) dX6_readWord_31 ⟨by decide, by decide⟩) hc hw [1, 2] [0] rfl rfl (by decide) (by decide) (fun r w H locs hq hw => ?_)
        obtain ⟨rfl, rfl⟩ := hq
        have hw : Wd D A s H locs [(r0, .inr (6, [.ref t0, .ref d0, .int (nI L), .int (nI a), .int (nI (skB b L ap))])), (t0, .inr (8, [.ref t1, .int (nI L)])), (t1, .inl (cI, 100, .inl (nF b)))] := hw
        refine lv_bipush (v := nI 97) hx hb dX6_readWord_34 (by decide) ?_
        refine wb_icmp_lt (tgt := 68) hx hb (by have := hB a; omega) (by omega) dX6_readWord_36 (by decide) (fun c_2 => ?_) (fun c_2 => ?_)
        · skip
          subst hQ
          exact r_v hx hb hr hlk hw (by rw [show wdE b L (skB b L ap) = a from e1.trans (rnA_stop (by simp [lr, c_1, c_2]; try omega))]) dX6_readWord_68
        · skip
          refine lv_aload_n hx hb dX6_readWord_39 rfl (lv_at hl 0 rfl) ?_
          refine w_get (C := RX6) (T := TX6) (N := 5) (ci := 6) hx hb hts in_6 hown hc hw 0 0 rfl rfl (by decide) lk_3 rfl dX6_readWord_40 ?_
          refine lv_aload_n hx hb dX6_readWord_43 rfl (lv_at hl 0 rfl) ?_
          refine w_get (C := RX6) (T := TX6) (N := 5) (ci := 6) hx hb hts in_6 hown hc hw 0 3 rfl rfl (by decide) lk_0 rfl dX6_readWord_44 ?_
          refine k_i (wr := [(r0, .inr (6, [.ref t0, .ref d0, .int (nI L), .int (nI a), .int (nI (skB b L ap))]))]) (j_V ⟨hx, hb, hml, hown, hts⟩ (c_X8_byteAt l D cI cZ cB cJ b0 adK adV t0 t1 b L a (by omega) (by omega) H.size) (cwV 1 hts gX6_readWord_X8_byteAt rfl rfl rfl (by decide +kernel) ⟨by decide, by decide⟩) hc hw [1, 2] rfl rfl 8 1 rfl rfl rfl rfl hl.1 rfl (Nat.le_of_ble_eq_true rfl) dX6_readWord_47 ⟨by decide, by decide⟩) hc hw [1, 2] [0] rfl rfl (by decide) (by decide) (fun r w H locs hq hw => ?_)
          obtain ⟨rfl, rfl⟩ := hq
          have hw : Wd D A s H locs [(r0, .inr (6, [.ref t0, .ref d0, .int (nI L), .int (nI a), .int (nI (skB b L ap))])), (t0, .inr (8, [.ref t1, .int (nI L)])), (t1, .inl (cI, 100, .inl (nF b)))] := hw
          refine lv_bipush (v := nI 122) hx hb dX6_readWord_50 (by decide) ?_
          refine wb_icmp_gt (tgt := 68) hx hb (by have := hB a; omega) (by omega) dX6_readWord_52 (by decide) (fun c_3 => ?_) (fun c_3 => ?_)
          · skip
            subst hQ
            exact r_v hx hb hr hlk hw (by rw [show wdE b L (skB b L ap) = a from e1.trans (rnA_stop (by simp [lr, c_1, c_2, c_3]; try omega))]) dX6_readWord_68
          · skip
            refine lv_aload_n hx hb dX6_readWord_55 rfl (lv_at hl 0 rfl) ?_
            refine lv_dup hx hb dX6_readWord_56 rfl ?_
            refine w_get (C := RX6) (T := TX6) (N := 5) (ci := 6) hx hb hts in_6 hown hc hw 0 3 rfl rfl (by decide) lk_0 rfl dX6_readWord_57 ?_
            refine lv_iconst (v := nI 1) hx hb dX6_readWord_60 (by decide) ?_
            refine wn_iadd hx hb dX6_readWord_61 ?_
            refine w_put (C := RX6) (T := TX6) (N := 5) (ci := 6) (v := .int (nI (a + 1))) (ws1 := [(r0, .inr (6, [.ref t0, .ref d0, .int (nI L), .int (nI (a + 1)), .int (nI (skB b L ap))])), (t0, .inr (8, [.ref t1, .int (nI L)])), (t1, .inl (cI, 100, .inl (nF b)))]) hx hb hts in_6 tyX6 tyX6_ok nmX6 hown hc hw 0 3 rfl rfl (by decide) lk_0 rfl rfl rfl (Nat.le_of_ble_eq_true rfl) rfl dX6_readWord_62 (fun H locs hw => ?_)
            refine lv_goto (tgt := 12) hx hb dX6_readWord_65 (by decide) ?_
            exact ih12 (a + 1) (by omega) (by rw [e1]; exact rnA_step (by omega) (by simp [lr, c_1, c_2, c_3])) (by omega) _ _ _ hw (lv_sub hl [0] rfl)
  exact key12 (L - (skB b L ap) + 1) (skB b L ap) hs rfl (Nat.lt_succ_self _) _ _ _ hw (lv_sub hl [0] rfl)
def rm_c_X6_isWord : Room := { frames := 4, cells := 0, slots := 0, locals := 85 }
set_option maxHeartbeats 4000000 in
set_option maxRecDepth 100000 in
theorem c_X6_isWord (l : Launch) (D : va_G) (cI cZ cB cJ : ClassId) (b0 : Nat) (adK adV : Nat → Nat) (r0 t0 d0 t1 : Nat) (b : Nat → Nat) (L : Nat) (ap : Nat) (wp : Nat) (i : Nat) (hL : L ≤ 100) (ha : ap ≤ L) (hw0 : wp ≤ ap) (hi : i < 7) (hB : ∀ k, b k < 256) : Mi l yX6_isWord wsX6_isWord rm_c_X6_isWord D (TYs cI cZ cB cJ) b0 adK adV [.ref r0, .ref (adK i)] [(r0, .inr (6, [.ref t0, .ref d0, .int (nI L), .int (nI ap), .int (nI wp)])), (t0, .inr (8, [.ref t1, .int (nI L)])), (t1, .inl (cI, 100, .inl (nF b)))] (fun (r : Int32) (w : va_W) => r = zI (isW b wp ap i) ∧ w = [(r0, .inr (6, [.ref t0, .ref d0, .int (nI L), .int (nI ap), .int (nI wp)])), (t0, .inr (8, [.ref t1, .int (nI L)])), (t1, .inl (cI, 100, .inl (nF b)))]) 0 0 := by
  refine e_M (Qf := fun A => va_Qi (fun (r : Int32) (w : va_W) => r = zI (isW b wp ap i) ∧ w = [(r0, .inr (6, [.ref t0, .ref d0, .int (nI L), .int (nI ap), .int (nI wp)])), (t0, .inr (8, [.ref t1, .int (nI L)])), (t1, .inl (cI, 100, .inl (nF b)))]) (Bw D A) A) (cc := cX6_isWord) (maxL := 3) (ret := (some .boolean)) (by decide) rfl (Nat.le_of_ble_eq_true rfl) ?_
  intro p e s m args below meth c ls A Q H locs hx hb hr hml hts hown hlk hnm hc hw hl hQ
  have hl : lv_has ls 3 [(0, .ref r0), (1, .ref (adK i))] := hl
  have in_6 : ∀ w ∈ u_ws RX6 TX6 5, w ∈ wsX6_isWord := fun _ h => List.mem_cons_of_mem _ (List.mem_append_left _ (List.mem_append_right _ h))
  have lk_0 := hts (.fieldLink RX6 22 "PloughingMatch$RuleReader" "at" "I") (List.mem_of_getElem? (i := 1) rfl)
  have lk_1 := hts (.fieldLink RX6 25 "PloughingMatch$RuleReader" "wordStart" "I") (List.mem_of_getElem? (i := 2) rfl)
  have lk_2 := hts (.fieldLink RX6 28 "PloughingMatch$RuleReader" "tape" "LPloughingMatch$Tape;") (List.mem_of_getElem? (i := 3) rfl)
  refine lv_aload_n hx hb dX6_isWord_0 rfl (lv_at hl 0 rfl) ?_
  refine w_get (C := RX6) (T := TX6) (N := 5) (ci := 6) hx hb hts in_6 hown hc hw 0 3 rfl rfl (by decide) lk_0 rfl dX6_isWord_1 ?_
  refine lv_aload_n hx hb dX6_isWord_4 rfl (lv_at hl 0 rfl) ?_
  refine w_get (C := RX6) (T := TX6) (N := 5) (ci := 6) hx hb hts in_6 hown hc hw 0 4 rfl rfl (by decide) lk_1 rfl dX6_isWord_5 ?_
  refine wn_isub hx hb (by omega) dX6_isWord_8 ?_
  refine lv_aload_n hx hb dX6_isWord_9 rfl (lv_at hl 1 rfl) ?_
  refine k_i (wr := [(r0, .inr (6, [.ref t0, .ref d0, .int (nI L), .int (nI ap), .int (nI wp)])), (t0, .inr (8, [.ref t1, .int (nI L)])), (t1, .inl (cI, 100, .inl (nF b)))]) (j_VS ⟨hx, hb, hml, hown, hts⟩ (c_J0_length_8abf5 l D cI cZ cB cJ b0 adK adV i (by omega) H.size) (cwV 0 hts gX6_isWord_J0_length_8abf5 rfl rfl rfl (by decide +kernel) ⟨by decide, by decide⟩) hc hw [] rfl rfl (am_rec hc hw _ (by omega)) rfl hl.1 rfl (Nat.le_of_ble_eq_true rfl) dX6_isWord_10 ⟨by decide, by decide⟩) hc hw [] [0, 1, 2] rfl rfl (by decide) (by decide) (fun r w H locs hq hw => ?_)
  obtain ⟨rfl, rfl⟩ := hq
  have hw : Wd D A s H locs [(r0, .inr (6, [.ref t0, .ref d0, .int (nI L), .int (nI ap), .int (nI wp)])), (t0, .inr (8, [.ref t1, .int (nI L)])), (t1, .inl (cI, 100, .inl (nF b)))] := hw
  refine wb_icmp_eq (tgt := 18) hx hb (by omega) (am_len i) dX6_isWord_13 (by decide) (fun c_1 => ?_) (fun c_1 => ?_)
  · skip
    refine lv_iconst (v := nI 0) hx hb dX6_isWord_18 (by decide) ?_
    refine lv_istore_n (lv' := [(2, .int (nI 0)), (0, .ref r0), (1, .ref (adK i))]) hx hb dX6_isWord_19 rfl hl (by decide) rfl (fun ls hl => ?_)
    have key20 : ∀ (fuel : Nat) (k : Nat), k ≤ amb_lens.getD i 0 → wEq b wp i k = true → amb_lens.getD i 0 - k < fuel → ∀ (H : Heap) (locs : List Loc) (ls : Array Slot), Wd D A s H locs [(r0, .inr (6, [.ref t0, .ref d0, .int (nI L), .int (nI ap), .int (nI wp)])), (t0, .inr (8, [.ref t1, .int (nI L)])), (t1, .inl (cI, 100, .inl (nF b)))] → lv_has ls 3 [(0, .ref r0), (1, .ref (adK i)), (2, .int (nI k))] → W p l e rm_c_X6_isWord s m args below meth c H locs 0 0 Q (F0 m 20 ls []) := by
      intro fuel
      induction fuel with
      | zero => intro k hk e1 hfu; exact absurd hfu (Nat.not_lt_zero _)
      | succ fuel ih =>
        intro k hk e1 hfu H locs ls hw hl
        have ih20 := ih
        refine lv_iload_n hx hb dX6_isWord_20 rfl (lv_at hl 2 rfl) ?_
        refine lv_aload_n hx hb dX6_isWord_21 rfl (lv_at hl 1 rfl) ?_
        refine k_i (wr := [(r0, .inr (6, [.ref t0, .ref d0, .int (nI L), .int (nI ap), .int (nI wp)])), (t0, .inr (8, [.ref t1, .int (nI L)])), (t1, .inl (cI, 100, .inl (nF b)))]) (j_VS ⟨hx, hb, hml, hown, hts⟩ (c_J0_length_8abf5 l D cI cZ cB cJ b0 adK adV i (by omega) H.size) (cwV 0 hts gX6_isWord_J0_length_8abf5 rfl rfl rfl (by decide +kernel) ⟨by decide, by decide⟩) hc hw [] rfl rfl (am_rec hc hw _ (by omega)) rfl hl.1 rfl (Nat.le_of_ble_eq_true rfl) dX6_isWord_22 ⟨by decide, by decide⟩) hc hw [] [0, 1, 2] rfl rfl (by decide) (by decide) (fun r w H locs hq hw => ?_)
        obtain ⟨rfl, rfl⟩ := hq
        have hw : Wd D A s H locs [(r0, .inr (6, [.ref t0, .ref d0, .int (nI L), .int (nI ap), .int (nI wp)])), (t0, .inr (8, [.ref t1, .int (nI L)])), (t1, .inl (cI, 100, .inl (nF b)))] := hw
        refine wb_icmp_ge (tgt := 57) hx hb (by omega) (am_len i) dX6_isWord_25 (by decide) (fun c_2 => ?_) (fun c_2 => ?_)
        · skip
          refine lv_iconst (v := nI 1) hx hb dX6_isWord_57 (by decide) ?_
          subst hQ
          exact r_i hx hb hr rfl hlk hw ⟨(zI_t (isW_t c_1 (by rw [show amb_lens.getD i 0 = k by omega]; exact e1))), rfl⟩ dX6_isWord_58
        · skip
          refine lv_aload_n hx hb dX6_isWord_28 rfl (lv_at hl 0 rfl) ?_
          refine w_get (C := RX6) (T := TX6) (N := 5) (ci := 6) hx hb hts in_6 hown hc hw 0 0 rfl rfl (by decide) lk_2 rfl dX6_isWord_29 ?_
          refine lv_aload_n hx hb dX6_isWord_32 rfl (lv_at hl 0 rfl) ?_
          refine w_get (C := RX6) (T := TX6) (N := 5) (ci := 6) hx hb hts in_6 hown hc hw 0 4 rfl rfl (by decide) lk_1 rfl dX6_isWord_33 ?_
          refine lv_iload_n hx hb dX6_isWord_36 rfl (lv_at hl 2 rfl) ?_
          refine wn_iadd hx hb dX6_isWord_37 ?_
          refine k_i (wr := [(r0, .inr (6, [.ref t0, .ref d0, .int (nI L), .int (nI ap), .int (nI wp)]))]) (j_V ⟨hx, hb, hml, hown, hts⟩ (c_X8_byteAt l D cI cZ cB cJ b0 adK adV t0 t1 b L (wp + k) (by omega) (by omega) H.size) (cwV 1 hts gX6_isWord_X8_byteAt rfl rfl rfl (by decide +kernel) ⟨by decide, by decide⟩) hc hw [1, 2] rfl rfl 8 1 rfl rfl rfl rfl hl.1 rfl (Nat.le_of_ble_eq_true rfl) dX6_isWord_38 ⟨by decide, by decide⟩) hc hw [1, 2] [0] rfl rfl (by decide) (by decide) (fun r w H locs hq hw => ?_)
          obtain ⟨rfl, rfl⟩ := hq
          have hw : Wd D A s H locs [(r0, .inr (6, [.ref t0, .ref d0, .int (nI L), .int (nI ap), .int (nI wp)])), (t0, .inr (8, [.ref t1, .int (nI L)])), (t1, .inl (cI, 100, .inl (nF b)))] := hw
          refine lv_aload_n hx hb dX6_isWord_41 rfl (lv_at hl 1 rfl) ?_
          refine lv_iload_n hx hb dX6_isWord_42 rfl (lv_at hl 2 rfl) ?_
          refine k_i (wr := [(r0, .inr (6, [.ref t0, .ref d0, .int (nI L), .int (nI ap), .int (nI wp)])), (t0, .inr (8, [.ref t1, .int (nI L)])), (t1, .inl (cI, 100, .inl (nF b)))]) (j_VS ⟨hx, hb, hml, hown, hts⟩ (c_J0_charAt_5068e l D cI cZ cB cJ b0 adK adV i k (by omega) (by assumption) H.size) (cwV 1 hts gX6_isWord_J0_charAt_5068e rfl rfl rfl (by decide +kernel) ⟨by decide, by decide⟩) hc hw [] rfl rfl (am_rec hc hw _ (by omega)) rfl hl.1 rfl (Nat.le_of_ble_eq_true rfl) dX6_isWord_43 ⟨by decide, by decide⟩) hc hw [] [0, 1, 2] rfl rfl (by decide) (by decide) (fun r w H locs hq hw => ?_)
          obtain ⟨rfl, rfl⟩ := hq
          have hw : Wd D A s H locs [(r0, .inr (6, [.ref t0, .ref d0, .int (nI L), .int (nI ap), .int (nI wp)])), (t0, .inr (8, [.ref t1, .int (nI L)])), (t1, .inl (cI, 100, .inl (nF b)))] := hw
          refine wn_top (y := nI (st_n i k)) (st_n_ch i hi k (by assumption)) ?_
          refine wb_icmp_eq (tgt := 51) hx hb (by have := hB (wp + k); omega) (by have := st_n_let i hi k (by assumption); omega) dX6_isWord_46 (by decide) (fun c_3 => ?_) (fun c_3 => ?_)
          · skip
            refine wn_iinc (a := k) (d := 1) (lv' := [(2, .int (nI (k + 1))), (0, .ref r0), (1, .ref (adK i))]) hx hb dX6_isWord_51 hl (k := 2) rfl (by decide) rfl (fun ls hl => ?_)
            refine lv_goto (tgt := 20) hx hb dX6_isWord_54 (by decide) ?_
            exact ih20 (k + 1) (by omega) (by simp [wEq, e1, c_1, c_2, c_3]) (by omega) _ _ _ hw (lv_sub hl [1, 2, 0] rfl)
          · skip
            refine lv_iconst (v := nI 0) hx hb dX6_isWord_49 (by decide) ?_
            subst hQ
            exact r_i hx hb hr rfl hlk hw ⟨(zI_f (isW_f2 (wEq_no c_3 _ (by omega)))), rfl⟩ dX6_isWord_50
    exact key20 (amb_lens.getD i 0 - 0 + 1) 0 (by omega) rfl (Nat.lt_succ_self _) _ _ _ hw (lv_sub hl [1, 2, 0] rfl)
  · skip
    refine lv_iconst (v := nI 0) hx hb dX6_isWord_16 (by decide) ?_
    subst hQ
    exact r_i hx hb hr rfl hlk hw ⟨(zI_f (isW_f1 c_1)), rfl⟩ dX6_isWord_17
def rm_c_X6_readPart : Room := { frames := 2, cells := 0, slots := 0, locals := 41 }
set_option maxHeartbeats 4000000 in
set_option maxRecDepth 100000 in
theorem c_X6_readPart (l : Launch) (D : va_G) (cI cZ cB cJ : ClassId) (b0 : Nat) (adK adV : Nat → Nat) (r0 t0 d0 t1 : Nat) (b : Nat → Nat) (L : Nat) (ap : Nat) (wp : Nat) (hL : L ≤ 100) (ha : ap ≤ L) (hB : ∀ k, b k < 256) (hd : skB b L ap < L ∧ 48 ≤ b (skB b L ap) ∧ b (skB b L ap) < 53) : Mi l yX6_readPart wsX6_readPart rm_c_X6_readPart D (TYs cI cZ cB cJ) b0 adK adV [.ref r0] [(r0, .inr (6, [.ref t0, .ref d0, .int (nI L), .int (nI ap), .int (nI wp)])), (t0, .inr (8, [.ref t1, .int (nI L)])), (t1, .inl (cI, 100, .inl (nF b)))] (fun (r : Int32) (w : va_W) => r = nI (4 + (b (skB b L ap) - 48)) ∧ w = [(r0, .inr (6, [.ref t0, .ref d0, .int (nI L), .int (nI (skB b L ap + 1)), .int (nI wp)])), (t0, .inr (8, [.ref t1, .int (nI L)])), (t1, .inl (cI, 100, .inl (nF b)))]) 0 0 := by
  refine e_M (Qf := fun A => va_Qi (fun (r : Int32) (w : va_W) => r = nI (4 + (b (skB b L ap) - 48)) ∧ w = [(r0, .inr (6, [.ref t0, .ref d0, .int (nI L), .int (nI (skB b L ap + 1)), .int (nI wp)])), (t0, .inr (8, [.ref t1, .int (nI L)])), (t1, .inl (cI, 100, .inl (nF b)))]) (Bw D A) A) (cc := cX6_readPart) (maxL := 2) (ret := (some .int)) (by decide) rfl (Nat.le_of_ble_eq_true rfl) ?_
  intro p e s m args below meth c ls A Q H locs hx hb hr hml hts hown hlk hnm hc hw hl hQ
  have hl : lv_has ls 2 [(0, .ref r0)] := hl
  have in_6 : ∀ w ∈ u_ws RX6 TX6 5, w ∈ wsX6_readPart := fun _ h => List.mem_cons_of_mem _ (List.mem_append_left _ (List.mem_append_right _ h))
  have lk_0 := hts (.fieldLink RX6 28 "PloughingMatch$RuleReader" "tape" "LPloughingMatch$Tape;") (List.mem_of_getElem? (i := 1) rfl)
  have lk_1 := hts (.fieldLink RX6 22 "PloughingMatch$RuleReader" "at" "I") (List.mem_of_getElem? (i := 2) rfl)
  refine lv_aload_n hx hb dX6_readPart_0 rfl (lv_at hl 0 rfl) ?_
  refine k_v (wr := []) (j_V ⟨hx, hb, hml, hown, hts⟩ (c_X6_skipBlanks l D cI cZ cB cJ b0 adK adV r0 t0 d0 t1 b L ap wp (by omega) (by omega) hB H.size) (cwV 0 hts gX6_readPart_X6_skipBlanks rfl rfl rfl (by decide +kernel) ⟨by decide, by decide⟩) hc hw [0, 1, 2] rfl rfl 6 0 rfl rfl rfl rfl hl.1 rfl (Nat.le_of_ble_eq_true rfl) dX6_readPart_1 ⟨by decide, by decide⟩) hc hw [0, 1, 2] [] rfl rfl (by decide) (by decide) (fun  w H locs hq hw => ?_)
  subst hq
  have hw : Wd D A s H locs [(r0, .inr (6, [.ref t0, .ref d0, .int (nI L), .int (nI (skB b L ap)), .int (nI wp)])), (t0, .inr (8, [.ref t1, .int (nI L)])), (t1, .inl (cI, 100, .inl (nF b)))] := hw
  refine lv_aload_n hx hb dX6_readPart_4 rfl (lv_at hl 0 rfl) ?_
  refine w_get (C := RX6) (T := TX6) (N := 5) (ci := 6) hx hb hts in_6 hown hc hw 0 0 rfl rfl (by decide) lk_0 rfl dX6_readPart_5 ?_
  refine lv_aload_n hx hb dX6_readPart_8 rfl (lv_at hl 0 rfl) ?_
  refine w_get (C := RX6) (T := TX6) (N := 5) (ci := 6) hx hb hts in_6 hown hc hw 0 3 rfl rfl (by decide) lk_1 rfl dX6_readPart_9 ?_
  refine k_i (wr := [(r0, .inr (6, [.ref t0, .ref d0, .int (nI L), .int (nI (skB b L ap)), .int (nI wp)]))]) (j_V ⟨hx, hb, hml, hown, hts⟩ (c_X8_byteAt l D cI cZ cB cJ b0 adK adV t0 t1 b L (skB b L ap) (by omega) (by omega) H.size) (cwV 1 hts gX6_readPart_X8_byteAt rfl rfl rfl (by decide +kernel) ⟨by decide, by decide⟩) hc hw [1, 2] rfl rfl 8 1 rfl rfl rfl rfl hl.1 rfl (Nat.le_of_ble_eq_true rfl) dX6_readPart_12 ⟨by decide, by decide⟩) hc hw [1, 2] [0] rfl rfl (by decide) (by decide) (fun r w H locs hq hw => ?_)
  obtain ⟨rfl, rfl⟩ := hq
  have hw : Wd D A s H locs [(r0, .inr (6, [.ref t0, .ref d0, .int (nI L), .int (nI (skB b L ap)), .int (nI wp)])), (t0, .inr (8, [.ref t1, .int (nI L)])), (t1, .inl (cI, 100, .inl (nF b)))] := hw
  refine lv_bipush (v := nI 48) hx hb dX6_readPart_15 (by decide) ?_
  refine wn_isub hx hb (by omega) dX6_readPart_17 ?_
  refine lv_istore_n (lv' := [(1, .int (nI ((b (skB b L ap)) - 48))), (0, .ref r0)]) hx hb dX6_readPart_18 rfl hl (by decide) rfl (fun ls hl => ?_)
  refine lv_iload_n hx hb dX6_readPart_19 rfl (lv_at hl 0 rfl) ?_
  refine wb_if_lt (tgt := 28) hx hb (by omega) dX6_readPart_20 (by decide) ?_
  refine lv_iload_n hx hb dX6_readPart_23 rfl (lv_at hl 0 rfl) ?_
  refine lv_iconst (v := nI 5) hx hb dX6_readPart_24 (by decide) ?_
  refine wb_icmp_lt (tgt := 30) hx hb (by omega) (by omega) dX6_readPart_25 (by decide) (fun c_2 => ?_) (fun c_2 => ?_)
  · skip
    refine lv_aload_n hx hb dX6_readPart_30 rfl (lv_at hl 1 rfl) ?_
    refine lv_dup hx hb dX6_readPart_31 rfl ?_
    refine w_get (C := RX6) (T := TX6) (N := 5) (ci := 6) hx hb hts in_6 hown hc hw 0 3 rfl rfl (by decide) lk_1 rfl dX6_readPart_32 ?_
    refine lv_iconst (v := nI 1) hx hb dX6_readPart_35 (by decide) ?_
    refine wn_iadd hx hb dX6_readPart_36 ?_
    refine w_put (C := RX6) (T := TX6) (N := 5) (ci := 6) (v := .int (nI (skB b L ap + 1))) (ws1 := [(r0, .inr (6, [.ref t0, .ref d0, .int (nI L), .int (nI (skB b L ap + 1)), .int (nI wp)])), (t0, .inr (8, [.ref t1, .int (nI L)])), (t1, .inl (cI, 100, .inl (nF b)))]) hx hb hts in_6 tyX6 tyX6_ok nmX6 hown hc hw 0 3 rfl rfl (by decide) lk_1 rfl rfl rfl (Nat.le_of_ble_eq_true rfl) rfl dX6_readPart_37 (fun H locs hw => ?_)
    refine lv_iconst (v := nI 4) hx hb dX6_readPart_40 (by decide) ?_
    refine lv_iload_n hx hb dX6_readPart_41 rfl (lv_at hl 0 rfl) ?_
    refine wn_iadd hx hb dX6_readPart_42 ?_
    subst hQ
    exact r_i hx hb hr rfl hlk hw ⟨rfl, rfl⟩ dX6_readPart_43
  · exact (by omega)
def rm_c_X6_readPart_no : Room := { frames := 2, cells := 0, slots := 0, locals := 41 }
set_option maxHeartbeats 4000000 in
set_option maxRecDepth 100000 in
theorem c_X6_readPart_no (l : Launch) (D : va_G) (cI cZ cB cJ : ClassId) (b0 : Nat) (adK adV : Nat → Nat) (r0 t0 d0 t1 : Nat) (b : Nat → Nat) (L : Nat) (ap : Nat) (wp : Nat) (hL : L ≤ 100) (ha : ap ≤ L) (hB : ∀ k, b k < 256) (hd : ¬ (skB b L ap < L ∧ 48 ≤ b (skB b L ap) ∧ b (skB b L ap) < 53)) : Mi l yX6_readPart wsX6_readPart rm_c_X6_readPart_no D (TYs cI cZ cB cJ) b0 adK adV [.ref r0] [(r0, .inr (6, [.ref t0, .ref d0, .int (nI L), .int (nI ap), .int (nI wp)])), (t0, .inr (8, [.ref t1, .int (nI L)])), (t1, .inl (cI, 100, .inl (nF b)))] (fun (r : Int32) (w : va_W) => r = (-1) ∧ w = [(r0, .inr (6, [.ref t0, .ref d0, .int (nI L), .int (nI (skB b L ap)), .int (nI wp)])), (t0, .inr (8, [.ref t1, .int (nI L)])), (t1, .inl (cI, 100, .inl (nF b)))]) 0 0 := by
  refine e_M (Qf := fun A => va_Qi (fun (r : Int32) (w : va_W) => r = (-1) ∧ w = [(r0, .inr (6, [.ref t0, .ref d0, .int (nI L), .int (nI (skB b L ap)), .int (nI wp)])), (t0, .inr (8, [.ref t1, .int (nI L)])), (t1, .inl (cI, 100, .inl (nF b)))]) (Bw D A) A) (cc := cX6_readPart) (maxL := 2) (ret := (some .int)) (by decide) rfl (Nat.le_of_ble_eq_true rfl) ?_
  intro p e s m args below meth c ls A Q H locs hx hb hr hml hts hown hlk hnm hc hw hl hQ
  have hl : lv_has ls 2 [(0, .ref r0)] := hl
  have in_6 : ∀ w ∈ u_ws RX6 TX6 5, w ∈ wsX6_readPart := fun _ h => List.mem_cons_of_mem _ (List.mem_append_left _ (List.mem_append_right _ h))
  have lk_0 := hts (.fieldLink RX6 28 "PloughingMatch$RuleReader" "tape" "LPloughingMatch$Tape;") (List.mem_of_getElem? (i := 1) rfl)
  have lk_1 := hts (.fieldLink RX6 22 "PloughingMatch$RuleReader" "at" "I") (List.mem_of_getElem? (i := 2) rfl)
  refine lv_aload_n hx hb dX6_readPart_0 rfl (lv_at hl 0 rfl) ?_
  refine k_v (wr := []) (j_V ⟨hx, hb, hml, hown, hts⟩ (c_X6_skipBlanks l D cI cZ cB cJ b0 adK adV r0 t0 d0 t1 b L ap wp (by omega) (by omega) hB H.size) (cwV 0 hts gX6_readPart_X6_skipBlanks rfl rfl rfl (by decide +kernel) ⟨by decide, by decide⟩) hc hw [0, 1, 2] rfl rfl 6 0 rfl rfl rfl rfl hl.1 rfl (Nat.le_of_ble_eq_true rfl) dX6_readPart_1 ⟨by decide, by decide⟩) hc hw [0, 1, 2] [] rfl rfl (by decide) (by decide) (fun  w H locs hq hw => ?_)
  subst hq
  have hw : Wd D A s H locs [(r0, .inr (6, [.ref t0, .ref d0, .int (nI L), .int (nI (skB b L ap)), .int (nI wp)])), (t0, .inr (8, [.ref t1, .int (nI L)])), (t1, .inl (cI, 100, .inl (nF b)))] := hw
  refine lv_aload_n hx hb dX6_readPart_4 rfl (lv_at hl 0 rfl) ?_
  refine w_get (C := RX6) (T := TX6) (N := 5) (ci := 6) hx hb hts in_6 hown hc hw 0 0 rfl rfl (by decide) lk_0 rfl dX6_readPart_5 ?_
  refine lv_aload_n hx hb dX6_readPart_8 rfl (lv_at hl 0 rfl) ?_
  refine w_get (C := RX6) (T := TX6) (N := 5) (ci := 6) hx hb hts in_6 hown hc hw 0 3 rfl rfl (by decide) lk_1 rfl dX6_readPart_9 ?_
  by_cases hs1 : skB b L ap < L
  · skip
    have hB1 := hB (skB b L ap)
    refine k_i (wr := [(r0, .inr (6, [.ref t0, .ref d0, .int (nI L), .int (nI (skB b L ap)), .int (nI wp)]))]) (j_V ⟨hx, hb, hml, hown, hts⟩ (c_X8_byteAt l D cI cZ cB cJ b0 adK adV t0 t1 b L (skB b L ap) (by omega) (by omega) H.size) (cwV 1 hts gX6_readPart_X8_byteAt rfl rfl rfl (by decide +kernel) ⟨by decide, by decide⟩) hc hw [1, 2] rfl rfl 8 1 rfl rfl rfl rfl hl.1 rfl (Nat.le_of_ble_eq_true rfl) dX6_readPart_12 ⟨by decide, by decide⟩) hc hw [1, 2] [0] rfl rfl (by decide) (by decide) (fun r w H locs hq hw => ?_)
    obtain ⟨rfl, rfl⟩ := hq
    have hw : Wd D A s H locs [(r0, .inr (6, [.ref t0, .ref d0, .int (nI L), .int (nI (skB b L ap)), .int (nI wp)])), (t0, .inr (8, [.ref t1, .int (nI L)])), (t1, .inl (cI, 100, .inl (nF b)))] := hw
    refine lv_bipush (v := nI 48) hx hb dX6_readPart_15 (by decide) ?_
    by_cases hs2 : 48 ≤ b (skB b L ap)
    · skip
      refine wn_isub hx hb (by omega) dX6_readPart_17 ?_
      refine lv_istore_n (lv' := [(1, .int (nI ((b (skB b L ap)) - 48))), (0, .ref r0)]) hx hb dX6_readPart_18 rfl hl (by decide) rfl (fun ls hl => ?_)
      refine lv_iload_n hx hb dX6_readPart_19 rfl (lv_at hl 0 rfl) ?_
      refine wb_if_lt (tgt := 28) hx hb (by omega) dX6_readPart_20 (by decide) ?_
      refine lv_iload_n hx hb dX6_readPart_23 rfl (lv_at hl 0 rfl) ?_
      refine lv_iconst (v := nI 5) hx hb dX6_readPart_24 (by decide) ?_
      refine wb_icmp_lt (tgt := 30) hx hb (by omega) (by omega) dX6_readPart_25 (by decide) (fun c_2 => ?_) (fun c_2 => ?_)
      · exact (by omega)
      · skip
        refine lv_iconst (v := (-1)) hx hb dX6_readPart_28 (by decide) ?_
        subst hQ
        exact r_i hx hb hr rfl hlk hw ⟨rfl, rfl⟩ dX6_readPart_29
    · skip
      refine lv_isub hx hb dX6_readPart_17 ?_
      refine lv_istore_n (lv' := [(1, .int ((nI (b (skB b L ap))) - (nI 48))), (0, .ref r0)]) hx hb dX6_readPart_18 rfl hl (by decide) rfl (fun ls hl => ?_)
      refine lv_iload_n hx hb dX6_readPart_19 rfl (lv_at hl 0 rfl) ?_
      refine lv_if_lt (tgt := 28) hx hb dX6_readPart_20 (by decide) (fun c_3 => ?_) (fun c_3 => ?_)
      · skip
        have c_3' := i32_nle.mpr c_3
        refine lv_iconst (v := (-1)) hx hb dX6_readPart_28 (by decide) ?_
        subst hQ
        exact r_i hx hb hr rfl hlk hw ⟨rfl, rfl⟩ dX6_readPart_29
      · exact (by first | exact absurd (pk_sneg (by decide) (by omega)) c_3 | exact absurd (by decide) c_3)
  · skip
    have hsL := skB_le b ha
    refine k_i (wr := [(r0, .inr (6, [.ref t0, .ref d0, .int (nI L), .int (nI (skB b L ap)), .int (nI wp)]))]) (j_V ⟨hx, hb, hml, hown, hts⟩ (c_X8_byteAt_out l D cI cZ cB cJ b0 adK adV t0 t1 b L (skB b L ap) (by omega) (by omega) (by omega) H.size) (cwV 1 hts gX6_readPart_X8_byteAt rfl rfl rfl (by decide +kernel) ⟨by decide, by decide⟩) hc hw [1, 2] rfl rfl 8 1 rfl rfl rfl rfl hl.1 rfl (Nat.le_of_ble_eq_true rfl) dX6_readPart_12 ⟨by decide, by decide⟩) hc hw [1, 2] [0] rfl rfl (by decide) (by decide) (fun r w H locs hq hw => ?_)
    obtain ⟨rfl, rfl⟩ := hq
    have hw : Wd D A s H locs [(r0, .inr (6, [.ref t0, .ref d0, .int (nI L), .int (nI (skB b L ap)), .int (nI wp)])), (t0, .inr (8, [.ref t1, .int (nI L)])), (t1, .inl (cI, 100, .inl (nF b)))] := hw
    refine lv_bipush (v := nI 48) hx hb dX6_readPart_15 (by decide) ?_
    by_cases hs2 : 48 ≤ b (skB b L ap)
    · skip
      refine lv_isub hx hb dX6_readPart_17 ?_
      refine lv_istore_n (lv' := [(1, .int ((-1) - (nI 48))), (0, .ref r0)]) hx hb dX6_readPart_18 rfl hl (by decide) rfl (fun ls hl => ?_)
      refine lv_iload_n hx hb dX6_readPart_19 rfl (lv_at hl 0 rfl) ?_
      refine lv_if_lt (tgt := 28) hx hb dX6_readPart_20 (by decide) (fun c_4 => ?_) (fun c_4 => ?_)
      · skip
        have c_4' := i32_nle.mpr c_4
        refine lv_iconst (v := (-1)) hx hb dX6_readPart_28 (by decide) ?_
        subst hQ
        exact r_i hx hb hr rfl hlk hw ⟨rfl, rfl⟩ dX6_readPart_29
      · exact (by first | exact absurd (pk_sneg (by decide) (by omega)) c_4 | exact absurd (by decide) c_4)
    · skip
      refine lv_isub hx hb dX6_readPart_17 ?_
      refine lv_istore_n (lv' := [(1, .int ((-1) - (nI 48))), (0, .ref r0)]) hx hb dX6_readPart_18 rfl hl (by decide) rfl (fun ls hl => ?_)
      refine lv_iload_n hx hb dX6_readPart_19 rfl (lv_at hl 0 rfl) ?_
      refine lv_if_lt (tgt := 28) hx hb dX6_readPart_20 (by decide) (fun c_5 => ?_) (fun c_5 => ?_)
      · skip
        have c_5' := i32_nle.mpr c_5
        refine lv_iconst (v := (-1)) hx hb dX6_readPart_28 (by decide) ?_
        subst hQ
        exact r_i hx hb hr rfl hlk hw ⟨rfl, rfl⟩ dX6_readPart_29
      · exact (by first | exact absurd (pk_sneg (by decide) (by omega)) c_5 | exact absurd (by decide) c_5)
