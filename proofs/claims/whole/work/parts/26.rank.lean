theorem sw_out {x : Int32} {n : Nat} (h : ∀ i, i ≤ n → ¬ x = nI i) : x.toInt < 0 ∨ (n : Int) < x.toInt := by
  rcases Int.lt_or_le x.toInt 0 with h1 | h1
  · exact Or.inl h1
  · rcases Int.lt_or_le (n : Int) x.toInt with h2 | h2
    · exact Or.inr h2
    · have hr := fb_rng x
      refine absurd ?_ (h x.toInt.toNat (by omega))
      apply Int32.toInt_inj.mp
      rw [nI_toInt (by omega)]; omega
theorem zI_1i {b : Bool} : nI 1 = zI b ↔ b = true := by cases b <;> decide
theorem zI_0i {b : Bool} : nI 0 = zI b ↔ b = false := by cases b <;> decide
/-- FINAL -/
def fin (su gr mi of_ : Nat → Int32) (al : Int32) (q : Nat) : Int32 := su q - gr q - rs_ot (mi q) al - of_ q
/-- what a KEY looks at -/
def vl (ag : Nat → Int32) (pb : Nat → Nat) (su gr td mi of_ : Nat → Int32) (al : Int32) (x z : Nat) : Int32 :=
  if z = 0 then fin su gr mi of_ al (pb x) else if z = 1 then su (pb x) else if z = 2 then mi (pb x) else if z = 3 then ag x else td (pb x * 5 + (z - 4))
/-- by the KEYS from k on: the first is ahead -/
def bts (x y : Nat → Int32) (up : Nat → Bool) : Nat → Nat → Bool
  | 0, _ => false
  | f + 1, k => if x k = y k then bts x y up f (k + 1) else (decide (x k < y k) == up k)
theorem bts_s {x y : Nat → Int32} {up : Nat → Bool} {n k : Nat} (h : k < n) : bts x y up (n - k) k = if x k = y k then bts x y up (n - (k + 1)) (k + 1) else (decide (x k < y k) == up k) := by
  rw [show n - k = n - (k + 1) + 1 by omega]; rfl
def btF (ag : Nat → Int32) (pb : Nat → Nat) (su gr td mi of_ : Nat → Int32) (al : Int32) (ms : Nat → Nat) (up : Nat → Bool) (nk a b : Nat) : Bool :=
  bts (fun k => vl ag pb su gr td mi of_ al a (ms k)) (fun k => vl ag pb su gr td mi of_ al b (ms k)) up nk 0
/-- where p comes to stand -/
def insP (bt : Nat → Nat → Bool) (x : Nat) (o : Nat → Nat) : Nat → Nat
  | 0 => 0
  | q + 1 => if bt x (o q) = true then insP bt x o q else q + 1
def shf (o : Nat → Nat) (n pl : Nat) : Nat → Nat := fun k => if pl < k ∧ k ≤ n then o (k - 1) else o k
def insA (o : Nat → Nat) (n pl x : Nat) : Nat → Nat := va_up (shf o n pl) pl x
def arrN (kd : Nat → Int32) (kind : Int32) : Nat → Nat
  | 0 => 0
  | x + 1 => if kd x = kind then arrN kd kind x + 1 else arrN kd kind x
def arrO (bt : Nat → Nat → Bool) (kd : Nat → Int32) (kind : Int32) (o : Nat → Nat) : Nat → Nat → Nat
  | 0 => o
  | x + 1 => if kd x = kind then insA (arrO bt kd kind o x) (arrN kd kind x) (insP bt x (arrO bt kd kind o x) (arrN kd kind x)) x else arrO bt kd kind o x
theorem arrN_le (kd : Nat → Int32) (kind : Int32) : ∀ x, arrN kd kind x ≤ x
  | 0 => Nat.le_refl 0
  | x + 1 => by
    have := arrN_le kd kind x
    simp only [arrN]; split <;> omega
theorem insP_le (bt : Nat → Nat → Bool) (x : Nat) (o : Nat → Nat) : ∀ n, insP bt x o n ≤ n
  | 0 => Nat.le_refl 0
  | q + 1 => by
    have := insP_le bt x o q
    simp only [insP]; split <;> omega
theorem shf_self (o : Nat → Nat) (n : Nat) : shf o n n = o := by
  funext k
  unfold shf
  rw [if_neg (by omega)]
theorem shf_step (o : Nat → Nat) {n pl : Nat} (h0 : 0 < pl) (h : pl ≤ n) : va_up (shf o n pl) pl (o (pl - 1)) = shf o n (pl - 1) := by
  funext k
  by_cases hk : k = pl
  · subst hk; rw [va_up_self]; unfold shf; rw [if_pos (by omega)]
  · rw [va_up_ne _ _ hk]; unfold shf
    by_cases h1 : pl < k ∧ k ≤ n
    · rw [if_pos h1, if_pos (by omega)]
    · rw [if_neg h1, if_neg (by omega)]
theorem shf_lo (o : Nat → Nat) {n pl k : Nat} (h : k < pl) : shf o n pl k = o k := by unfold shf; rw [if_neg (by omega)]
theorem insP_go {bt : Nat → Nat → Bool} {x : Nat} {o : Nat → Nat} {q : Nat} (h : 0 < q) (hb : bt x (o (q - 1)) = true) : insP bt x o q = insP bt x o (q - 1) := by
  obtain ⟨r, rfl⟩ : ∃ r, q = r + 1 := ⟨q - 1, by omega⟩
  simp only [insP, Nat.add_sub_cancel] at hb ⊢
  rw [if_pos hb]
theorem insP_at {bt : Nat → Nat → Bool} {x : Nat} {o : Nat → Nat} {q : Nat} (h : q = 0 ∨ bt x (o (q - 1)) = false) : insP bt x o q = q := by
  cases q with
  | zero => rfl
  | succ r =>
    rcases h with h | h
    · exact absurd h (by omega)
    · simp only [insP, Nat.add_sub_cancel] at h ⊢
      rw [if_neg (by rw [h]; decide)]
theorem insA_lt {o : Nat → Nat} {n pl x M : Nat} (hpl : pl ≤ n) (ho : ∀ k, k < n → o k < M) (hx : x < M) : ∀ k, k < n + 1 → insA o n pl x k < M := by
  intro k hk
  unfold insA
  by_cases h : k = pl
  · subst h; rw [va_up_self]; exact hx
  · rw [va_up_ne _ _ h]; unfold shf
    split
    · exact ho _ (by omega)
    · rename_i h1
      by_cases h2 : k < n
      · exact ho _ h2
      · by_cases h3 : pl < k
        · exact absurd ⟨h3, by omega⟩ h1
        · omega
def rm_c_X5_finalOf : Room := { frames := 1, cells := 0, slots := 0, locals := 22 }
set_option maxHeartbeats 4000000 in
set_option maxRecDepth 100000 in
theorem c_X5_finalOf (l : Launch) (D : va_G) (cI cZ cB cJ : ClassId) (b0 : Nat) (adK adV : Nat → Nat) (u0 u1 u2 s0 s1 s2 s3 s4 s5 : Nat) (mi : Nat → Int32) (of_ : Nat → Int32) (al : Int32) (mk : Nat → Int32) (hd : Nat → Int32) (td : Nat → Int32) (su : Nat → Int32) (gr : Nat → Int32) (P : Nat) (sz : Int32) (q : Nat) (hq : q < 24) : Mi l yX5_finalOf wsX5_finalOf rm_c_X5_finalOf D (TYs cI cZ cB cJ) b0 adK adV [.ref u0, .int (nI q)] [(u0, .inr (5, [.ref s0, .ref u1, .ref u2, .int al])), (u1, .inl (cI, 24, .inl mi)), (u2, .inl (cI, 24, .inl of_)), (s0, .inr (7, [.ref s1, .ref s2, .ref s3, .ref s4, .ref s5, .int (nI P), .int sz])), (s1, .inl (cI, 480, .inl mk)), (s2, .inl (cI, 20, .inl hd)), (s3, .inl (cI, 120, .inl td)), (s4, .inl (cI, 24, .inl su)), (s5, .inl (cI, 24, .inl gr))] (fun (r : Int32) (w : va_W) => r = fin su gr mi of_ al q ∧ w = [(u0, .inr (5, [.ref s0, .ref u1, .ref u2, .int al])), (u1, .inl (cI, 24, .inl mi)), (u2, .inl (cI, 24, .inl of_)), (s0, .inr (7, [.ref s1, .ref s2, .ref s3, .ref s4, .ref s5, .int (nI P), .int sz])), (s1, .inl (cI, 480, .inl mk)), (s2, .inl (cI, 20, .inl hd)), (s3, .inl (cI, 120, .inl td)), (s4, .inl (cI, 24, .inl su)), (s5, .inl (cI, 24, .inl gr))]) 0 0 := by
  refine e_M (Qf := fun A => va_Qi (fun (r : Int32) (w : va_W) => r = fin su gr mi of_ al q ∧ w = [(u0, .inr (5, [.ref s0, .ref u1, .ref u2, .int al])), (u1, .inl (cI, 24, .inl mi)), (u2, .inl (cI, 24, .inl of_)), (s0, .inr (7, [.ref s1, .ref s2, .ref s3, .ref s4, .ref s5, .int (nI P), .int sz])), (s1, .inl (cI, 480, .inl mk)), (s2, .inl (cI, 20, .inl hd)), (s3, .inl (cI, 120, .inl td)), (s4, .inl (cI, 24, .inl su)), (s5, .inl (cI, 24, .inl gr))]) (Bw D A) A) (cc := cX5_finalOf) (maxL := 2) (ret := (some .int)) (by decide) rfl (Nat.le_of_ble_eq_true rfl) ?_
  intro p e s m args below meth c ls A Q H locs hx hb hr hml hts hown hlk hnm hc hw hl hQ
  have hl : lv_has ls 2 [(0, .ref u0), (1, .int (nI q))] := hl
  have in_5 : ∀ w ∈ u_ws RX5 TX5 4, w ∈ wsX5_finalOf := fun _ h => List.mem_cons_of_mem _ (List.mem_append_left _ (List.mem_append_right _ h))
  have lk_0 := hts (.fieldLink RX5 22 "PloughingMatch$Results" "sheet" "LPloughingMatch$Sheet;") (List.mem_of_getElem? (i := 1) rfl)
  have lk_1 := hts (.fieldLink RX5 15 "PloughingMatch$Results" "offByPlot" "[I") (List.mem_of_getElem? (i := 2) rfl)
  refine lv_aload_n hx hb dX5_finalOf_0 rfl (lv_at hl 0 rfl) ?_
  refine w_get (C := RX5) (T := TX5) (N := 4) (ci := 5) hx hb hts in_5 hown hc hw 0 0 rfl rfl (by decide) lk_0 rfl dX5_finalOf_1 ?_
  refine lv_iload_n hx hb dX5_finalOf_4 rfl (lv_at hl 1 rfl) ?_
  refine k_i (wr := [(u0, .inr (5, [.ref s0, .ref u1, .ref u2, .int al])), (u1, .inl (cI, 24, .inl mi)), (u2, .inl (cI, 24, .inl of_))]) (j_V ⟨hx, hb, hml, hown, hts⟩ (c_X7_sumOf l D cI cZ cB cJ b0 adK adV s0 s1 s2 s3 s4 s5 mk hd td su gr P sz q (by omega) H.size) (cwV 1 hts gX5_finalOf_X7_sumOf rfl rfl rfl (by decide +kernel) ⟨by decide, by decide⟩) hc hw [3, 4, 5, 6, 7, 8] rfl rfl 7 3 rfl rfl rfl rfl hl.1 rfl (Nat.le_of_ble_eq_true rfl) dX5_finalOf_5 ⟨by decide, by decide⟩) hc hw [3, 4, 5, 6, 7, 8] [0, 1, 2] rfl rfl (by decide) (by decide) (fun r w H locs hq hw => ?_)
  obtain ⟨rfl, rfl⟩ := hq
  have hw : Wd D A s H locs [(u0, .inr (5, [.ref s0, .ref u1, .ref u2, .int al])), (u1, .inl (cI, 24, .inl mi)), (u2, .inl (cI, 24, .inl of_)), (s0, .inr (7, [.ref s1, .ref s2, .ref s3, .ref s4, .ref s5, .int (nI P), .int sz])), (s1, .inl (cI, 480, .inl mk)), (s2, .inl (cI, 20, .inl hd)), (s3, .inl (cI, 120, .inl td)), (s4, .inl (cI, 24, .inl su)), (s5, .inl (cI, 24, .inl gr))] := hw
  refine lv_aload_n hx hb dX5_finalOf_8 rfl (lv_at hl 0 rfl) ?_
  refine w_get (C := RX5) (T := TX5) (N := 4) (ci := 5) hx hb hts in_5 hown hc hw 0 0 rfl rfl (by decide) lk_0 rfl dX5_finalOf_9 ?_
  refine lv_iload_n hx hb dX5_finalOf_12 rfl (lv_at hl 1 rfl) ?_
  refine k_i (wr := [(u0, .inr (5, [.ref s0, .ref u1, .ref u2, .int al])), (u1, .inl (cI, 24, .inl mi)), (u2, .inl (cI, 24, .inl of_))]) (j_V ⟨hx, hb, hml, hown, hts⟩ (c_X7_groundOf l D cI cZ cB cJ b0 adK adV s0 s1 s2 s3 s4 s5 mk hd td su gr P sz q (by omega) H.size) (cwV 1 hts gX5_finalOf_X7_groundOf rfl rfl rfl (by decide +kernel) ⟨by decide, by decide⟩) hc hw [3, 4, 5, 6, 7, 8] rfl rfl 7 3 rfl rfl rfl rfl hl.1 rfl (Nat.le_of_ble_eq_true rfl) dX5_finalOf_13 ⟨by decide, by decide⟩) hc hw [3, 4, 5, 6, 7, 8] [0, 1, 2] rfl rfl (by decide) (by decide) (fun r w H locs hq hw => ?_)
  obtain ⟨rfl, rfl⟩ := hq
  have hw : Wd D A s H locs [(u0, .inr (5, [.ref s0, .ref u1, .ref u2, .int al])), (u1, .inl (cI, 24, .inl mi)), (u2, .inl (cI, 24, .inl of_)), (s0, .inr (7, [.ref s1, .ref s2, .ref s3, .ref s4, .ref s5, .int (nI P), .int sz])), (s1, .inl (cI, 480, .inl mk)), (s2, .inl (cI, 20, .inl hd)), (s3, .inl (cI, 120, .inl td)), (s4, .inl (cI, 24, .inl su)), (s5, .inl (cI, 24, .inl gr))] := hw
  refine lv_isub hx hb dX5_finalOf_16 ?_
  refine lv_aload_n hx hb dX5_finalOf_17 rfl (lv_at hl 0 rfl) ?_
  refine lv_iload_n hx hb dX5_finalOf_18 rfl (lv_at hl 1 rfl) ?_
  refine k_i (wr := [(s0, .inr (7, [.ref s1, .ref s2, .ref s3, .ref s4, .ref s5, .int (nI P), .int sz])), (s1, .inl (cI, 480, .inl mk)), (s2, .inl (cI, 20, .inl hd)), (s3, .inl (cI, 120, .inl td)), (s4, .inl (cI, 24, .inl su)), (s5, .inl (cI, 24, .inl gr))]) (j_V ⟨hx, hb, hml, hown, hts⟩ (c_X5_overtimeOf l D cI cZ cB cJ b0 adK adV u0 s0 u1 u2 mi of_ al q (by omega) H.size) (cwV 1 hts gX5_finalOf_X5_overtimeOf rfl rfl rfl (by decide +kernel) ⟨by decide, by decide⟩) hc hw [0, 1, 2] rfl rfl 5 0 rfl rfl rfl rfl hl.1 rfl (Nat.le_of_ble_eq_true rfl) dX5_finalOf_19 ⟨by decide, by decide⟩) hc hw [0, 1, 2] [3, 4, 5, 6, 7, 8] rfl rfl (by decide) (by decide) (fun r w H locs hq hw => ?_)
  obtain ⟨rfl, rfl⟩ := hq
  have hw : Wd D A s H locs [(u0, .inr (5, [.ref s0, .ref u1, .ref u2, .int al])), (u1, .inl (cI, 24, .inl mi)), (u2, .inl (cI, 24, .inl of_)), (s0, .inr (7, [.ref s1, .ref s2, .ref s3, .ref s4, .ref s5, .int (nI P), .int sz])), (s1, .inl (cI, 480, .inl mk)), (s2, .inl (cI, 20, .inl hd)), (s3, .inl (cI, 120, .inl td)), (s4, .inl (cI, 24, .inl su)), (s5, .inl (cI, 24, .inl gr))] := hw.sub [6, 7, 8, 0, 1, 2, 3, 4, 5] (by decide) rfl
  refine lv_isub hx hb dX5_finalOf_22 ?_
  refine lv_aload_n hx hb dX5_finalOf_23 rfl (lv_at hl 0 rfl) ?_
  refine w_get (C := RX5) (T := TX5) (N := 4) (ci := 5) hx hb hts in_5 hown hc hw 0 2 rfl rfl (by decide) lk_1 rfl dX5_finalOf_24 ?_
  refine lv_iload_n hx hb dX5_finalOf_27 rfl (lv_at hl 1 rfl) ?_
  refine w_iald hx hb hc hw 2 rfl rfl (i := q) (by omega) (by decide) dX5_finalOf_28 ?_
  refine lv_isub hx hb dX5_finalOf_29 ?_
  subst hQ
  exact r_i hx hb hr rfl hlk hw ⟨rfl, rfl⟩ dX5_finalOf_30
def rm_c_X4_valueOf : Room := { frames := 2, cells := 0, slots := 0, locals := 43 }
set_option maxHeartbeats 4000000 in
set_option maxRecDepth 100000 in
theorem c_X4_valueOf (l : Launch) (D : va_G) (cI cZ cB cJ : ClassId) (b0 : Nat) (adK adV : Nat → Nat) (g0 g1 e0 e1 e2 e3 e4 e5 s0 s1 s2 s3 s4 s5 u0 u1 u2 k0 k1 k2 : Nat) (o : Nat → Nat) (no : Nat) (kd : Nat → Int32) (ag : Nat → Int32) (cb : Nat → Nat) (pb : Nat → Nat) (pp : Nat → Nat) (n : Nat) (dr : Bool) (mk : Nat → Int32) (hd : Nat → Int32) (td : Nat → Int32) (su : Nat → Int32) (gr : Nat → Int32) (P : Nat) (sz : Int32) (mi : Nat → Int32) (of_ : Nat → Int32) (al : Int32) (ms : Nat → Nat) (up : Nat → Bool) (nk : Nat) (x : Nat) (z : Nat) (hx0 : x < 24) (hpx : pb x < 24) (hz : z ≤ 8) : Mi l yX4_valueOf wsX4_valueOf rm_c_X4_valueOf D (TYs cI cZ cB cJ) b0 adK adV [.ref g0, .int (nI x), .int (nI z)] [(g0, .inr (4, [.ref e0, .ref s0, .ref u0, .ref k0, .ref g1, .int (nI no)])), (g1, .inl (cI, 24, .inl (nF o))), (e0, .inr (1, [.ref e1, .ref e2, .ref e3, .ref e4, .ref e5, .int (nI n), .int (zI dr)])), (e1, .inl (cI, 24, .inl kd)), (e2, .inl (cI, 24, .inl ag)), (e3, .inl (cI, 24, .inl (nF cb))), (e4, .inl (cI, 24, .inl (nF pb))), (e5, .inl (cI, 24, .inl (nF pp))), (s0, .inr (7, [.ref s1, .ref s2, .ref s3, .ref s4, .ref s5, .int (nI P), .int sz])), (s1, .inl (cI, 480, .inl mk)), (s2, .inl (cI, 20, .inl hd)), (s3, .inl (cI, 120, .inl td)), (s4, .inl (cI, 24, .inl su)), (s5, .inl (cI, 24, .inl gr)), (u0, .inr (5, [.ref s0, .ref u1, .ref u2, .int al])), (u1, .inl (cI, 24, .inl mi)), (u2, .inl (cI, 24, .inl of_)), (k0, .inr (2, [.ref k1, .ref k2, .int (nI nk)])), (k1, .inl (cI, 6, .inl (nF ms))), (k2, .inl (cZ, 6, .inl (zF up)))] (fun (r : Int32) (w : va_W) => r = vl ag pb su gr td mi of_ al x z ∧ w = [(g0, .inr (4, [.ref e0, .ref s0, .ref u0, .ref k0, .ref g1, .int (nI no)])), (g1, .inl (cI, 24, .inl (nF o))), (e0, .inr (1, [.ref e1, .ref e2, .ref e3, .ref e4, .ref e5, .int (nI n), .int (zI dr)])), (e1, .inl (cI, 24, .inl kd)), (e2, .inl (cI, 24, .inl ag)), (e3, .inl (cI, 24, .inl (nF cb))), (e4, .inl (cI, 24, .inl (nF pb))), (e5, .inl (cI, 24, .inl (nF pp))), (s0, .inr (7, [.ref s1, .ref s2, .ref s3, .ref s4, .ref s5, .int (nI P), .int sz])), (s1, .inl (cI, 480, .inl mk)), (s2, .inl (cI, 20, .inl hd)), (s3, .inl (cI, 120, .inl td)), (s4, .inl (cI, 24, .inl su)), (s5, .inl (cI, 24, .inl gr)), (u0, .inr (5, [.ref s0, .ref u1, .ref u2, .int al])), (u1, .inl (cI, 24, .inl mi)), (u2, .inl (cI, 24, .inl of_)), (k0, .inr (2, [.ref k1, .ref k2, .int (nI nk)])), (k1, .inl (cI, 6, .inl (nF ms))), (k2, .inl (cZ, 6, .inl (zF up)))]) 0 0 := by
  refine e_M (Qf := fun A => va_Qi (fun (r : Int32) (w : va_W) => r = vl ag pb su gr td mi of_ al x z ∧ w = [(g0, .inr (4, [.ref e0, .ref s0, .ref u0, .ref k0, .ref g1, .int (nI no)])), (g1, .inl (cI, 24, .inl (nF o))), (e0, .inr (1, [.ref e1, .ref e2, .ref e3, .ref e4, .ref e5, .int (nI n), .int (zI dr)])), (e1, .inl (cI, 24, .inl kd)), (e2, .inl (cI, 24, .inl ag)), (e3, .inl (cI, 24, .inl (nF cb))), (e4, .inl (cI, 24, .inl (nF pb))), (e5, .inl (cI, 24, .inl (nF pp))), (s0, .inr (7, [.ref s1, .ref s2, .ref s3, .ref s4, .ref s5, .int (nI P), .int sz])), (s1, .inl (cI, 480, .inl mk)), (s2, .inl (cI, 20, .inl hd)), (s3, .inl (cI, 120, .inl td)), (s4, .inl (cI, 24, .inl su)), (s5, .inl (cI, 24, .inl gr)), (u0, .inr (5, [.ref s0, .ref u1, .ref u2, .int al])), (u1, .inl (cI, 24, .inl mi)), (u2, .inl (cI, 24, .inl of_)), (k0, .inr (2, [.ref k1, .ref k2, .int (nI nk)])), (k1, .inl (cI, 6, .inl (nF ms))), (k2, .inl (cZ, 6, .inl (zF up)))]) (Bw D A) A) (cc := cX4_valueOf) (maxL := 4) (ret := (some .int)) (by decide) rfl (Nat.le_of_ble_eq_true rfl) ?_
  intro p e s m args below meth c ls A Q H locs hx hb hr hml hts hown hlk hnm hc hw hl hQ
  have hl : lv_has ls 4 [(0, .ref g0), (1, .int (nI x)), (2, .int (nI z))] := hl
  have in_4 : ∀ w ∈ u_ws RX4 TX4 6, w ∈ wsX4_valueOf := fun _ h => List.mem_cons_of_mem _ (List.mem_append_left _ (List.mem_append_left _ (List.mem_append_left _ (List.mem_append_right _ h))))
  have lk_0 := hts (.fieldLink RX4 19 "PloughingMatch$Ranking" "entries" "LPloughingMatch$Entries;") (List.mem_of_getElem? (i := 1) rfl)
  have lk_1 := hts (.fieldLink RX4 27 "PloughingMatch$Ranking" "results" "LPloughingMatch$Results;") (List.mem_of_getElem? (i := 2) rfl)
  have lk_2 := hts (.fieldLink RX4 23 "PloughingMatch$Ranking" "sheet" "LPloughingMatch$Sheet;") (List.mem_of_getElem? (i := 3) rfl)
  refine lv_aload_n hx hb dX4_valueOf_0 rfl (lv_at hl 0 rfl) ?_
  refine w_get (C := RX4) (T := TX4) (N := 6) (ci := 4) hx hb hts in_4 hown hc hw 0 0 rfl rfl (by decide) lk_0 rfl dX4_valueOf_1 ?_
  refine lv_iload_n hx hb dX4_valueOf_4 rfl (lv_at hl 1 rfl) ?_
  refine k_i (wr := [(g0, .inr (4, [.ref e0, .ref s0, .ref u0, .ref k0, .ref g1, .int (nI no)])), (g1, .inl (cI, 24, .inl (nF o))), (s0, .inr (7, [.ref s1, .ref s2, .ref s3, .ref s4, .ref s5, .int (nI P), .int sz])), (s1, .inl (cI, 480, .inl mk)), (s2, .inl (cI, 20, .inl hd)), (s3, .inl (cI, 120, .inl td)), (s4, .inl (cI, 24, .inl su)), (s5, .inl (cI, 24, .inl gr)), (u0, .inr (5, [.ref s0, .ref u1, .ref u2, .int al])), (u1, .inl (cI, 24, .inl mi)), (u2, .inl (cI, 24, .inl of_)), (k0, .inr (2, [.ref k1, .ref k2, .int (nI nk)])), (k1, .inl (cI, 6, .inl (nF ms))), (k2, .inl (cZ, 6, .inl (zF up)))]) (j_V ⟨hx, hb, hml, hown, hts⟩ (c_X1_plotOf l D cI cZ cB cJ b0 adK adV e0 e1 e2 e3 e4 e5 kd ag cb pb pp n dr x (by omega) H.size) (cwV 1 hts gX4_valueOf_X1_plotOf rfl rfl rfl (by decide +kernel) ⟨by decide, by decide⟩) hc hw [2, 3, 4, 5, 6, 7] rfl rfl 1 2 rfl rfl rfl rfl hl.1 rfl (Nat.le_of_ble_eq_true rfl) dX4_valueOf_5 ⟨by decide, by decide⟩) hc hw [2, 3, 4, 5, 6, 7] [0, 1, 8, 9, 10, 11, 12, 13, 14, 15, 16, 17, 18, 19] rfl rfl (by decide) (by decide) (fun r w H locs hq hw => ?_)
  obtain ⟨rfl, rfl⟩ := hq
  have hw : Wd D A s H locs [(g0, .inr (4, [.ref e0, .ref s0, .ref u0, .ref k0, .ref g1, .int (nI no)])), (g1, .inl (cI, 24, .inl (nF o))), (e0, .inr (1, [.ref e1, .ref e2, .ref e3, .ref e4, .ref e5, .int (nI n), .int (zI dr)])), (e1, .inl (cI, 24, .inl kd)), (e2, .inl (cI, 24, .inl ag)), (e3, .inl (cI, 24, .inl (nF cb))), (e4, .inl (cI, 24, .inl (nF pb))), (e5, .inl (cI, 24, .inl (nF pp))), (s0, .inr (7, [.ref s1, .ref s2, .ref s3, .ref s4, .ref s5, .int (nI P), .int sz])), (s1, .inl (cI, 480, .inl mk)), (s2, .inl (cI, 20, .inl hd)), (s3, .inl (cI, 120, .inl td)), (s4, .inl (cI, 24, .inl su)), (s5, .inl (cI, 24, .inl gr)), (u0, .inr (5, [.ref s0, .ref u1, .ref u2, .int al])), (u1, .inl (cI, 24, .inl mi)), (u2, .inl (cI, 24, .inl of_)), (k0, .inr (2, [.ref k1, .ref k2, .int (nI nk)])), (k1, .inl (cI, 6, .inl (nF ms))), (k2, .inl (cZ, 6, .inl (zF up)))] := hw.sub [0, 1, 14, 15, 16, 17, 18, 19, 2, 3, 4, 5, 6, 7, 8, 9, 10, 11, 12, 13] (by decide) rfl
  refine lv_istore_n (lv' := [(3, .int (nI (pb x))), (0, .ref g0), (1, .int (nI x)), (2, .int (nI z))]) hx hb dX4_valueOf_8 rfl hl (by decide) rfl (fun ls hl => ?_)
  refine lv_iload_n hx hb dX4_valueOf_9 rfl (lv_at hl 3 rfl) ?_
  by_cases hs_1_0 : nI z = nI 0
  · skip
    refine lv_tableIn (off := 30) (tgt := 40) hx hb dX4_valueOf_10 (by rw [hs_1_0]; decide) (by rw [hs_1_0]; decide) (by rw [hs_1_0]; rfl) (by decide) ?_
    have hz9 : z = 0 := (nI_eq (by omega) (by decide)).mp hs_1_0
    refine lv_aload_n hx hb dX4_valueOf_40 rfl (lv_at hl 1 rfl) ?_
    refine w_get (C := RX4) (T := TX4) (N := 6) (ci := 4) hx hb hts in_4 hown hc hw 0 2 rfl rfl (by decide) lk_1 rfl dX4_valueOf_41 ?_
    refine lv_iload_n hx hb dX4_valueOf_44 rfl (lv_at hl 0 rfl) ?_
    refine k_i (wr := [(g0, .inr (4, [.ref e0, .ref s0, .ref u0, .ref k0, .ref g1, .int (nI no)])), (g1, .inl (cI, 24, .inl (nF o))), (e0, .inr (1, [.ref e1, .ref e2, .ref e3, .ref e4, .ref e5, .int (nI n), .int (zI dr)])), (e1, .inl (cI, 24, .inl kd)), (e2, .inl (cI, 24, .inl ag)), (e3, .inl (cI, 24, .inl (nF cb))), (e4, .inl (cI, 24, .inl (nF pb))), (e5, .inl (cI, 24, .inl (nF pp))), (k0, .inr (2, [.ref k1, .ref k2, .int (nI nk)])), (k1, .inl (cI, 6, .inl (nF ms))), (k2, .inl (cZ, 6, .inl (zF up)))]) (j_V ⟨hx, hb, hml, hown, hts⟩ (c_X5_finalOf l D cI cZ cB cJ b0 adK adV u0 u1 u2 s0 s1 s2 s3 s4 s5 mi of_ al mk hd td su gr P sz (pb x) (by omega) H.size) (cwV 1 hts gX4_valueOf_X5_finalOf rfl rfl rfl (by decide +kernel) ⟨by decide, by decide⟩) hc hw [14, 15, 16, 8, 9, 10, 11, 12, 13] rfl rfl 5 14 rfl rfl rfl rfl hl.1 rfl (Nat.le_of_ble_eq_true rfl) dX4_valueOf_45 ⟨by decide, by decide⟩) hc hw [14, 15, 16, 8, 9, 10, 11, 12, 13] [0, 1, 2, 3, 4, 5, 6, 7, 17, 18, 19] rfl rfl (by decide) (by decide) (fun r w H locs hq hw => ?_)
    obtain ⟨rfl, rfl⟩ := hq
    have hw : Wd D A s H locs [(g0, .inr (4, [.ref e0, .ref s0, .ref u0, .ref k0, .ref g1, .int (nI no)])), (g1, .inl (cI, 24, .inl (nF o))), (e0, .inr (1, [.ref e1, .ref e2, .ref e3, .ref e4, .ref e5, .int (nI n), .int (zI dr)])), (e1, .inl (cI, 24, .inl kd)), (e2, .inl (cI, 24, .inl ag)), (e3, .inl (cI, 24, .inl (nF cb))), (e4, .inl (cI, 24, .inl (nF pb))), (e5, .inl (cI, 24, .inl (nF pp))), (s0, .inr (7, [.ref s1, .ref s2, .ref s3, .ref s4, .ref s5, .int (nI P), .int sz])), (s1, .inl (cI, 480, .inl mk)), (s2, .inl (cI, 20, .inl hd)), (s3, .inl (cI, 120, .inl td)), (s4, .inl (cI, 24, .inl su)), (s5, .inl (cI, 24, .inl gr)), (u0, .inr (5, [.ref s0, .ref u1, .ref u2, .int al])), (u1, .inl (cI, 24, .inl mi)), (u2, .inl (cI, 24, .inl of_)), (k0, .inr (2, [.ref k1, .ref k2, .int (nI nk)])), (k1, .inl (cI, 6, .inl (nF ms))), (k2, .inl (cZ, 6, .inl (zF up)))] := hw.sub [0, 1, 2, 3, 4, 5, 6, 7, 14, 15, 16, 17, 18, 19, 11, 12, 13, 8, 9, 10] (by decide) rfl
    subst hQ
    exact r_i hx hb hr rfl hlk hw ⟨(by simp [vl, hz9]), rfl⟩ dX4_valueOf_48
  by_cases hs_1_1 : nI z = nI 1
  · skip
    refine lv_tableIn (off := 39) (tgt := 49) hx hb dX4_valueOf_10 (by rw [hs_1_1]; decide) (by rw [hs_1_1]; decide) (by rw [hs_1_1]; rfl) (by decide) ?_
    have hz9 : z = 1 := (nI_eq (by omega) (by decide)).mp hs_1_1
    refine lv_aload_n hx hb dX4_valueOf_49 rfl (lv_at hl 1 rfl) ?_
    refine w_get (C := RX4) (T := TX4) (N := 6) (ci := 4) hx hb hts in_4 hown hc hw 0 1 rfl rfl (by decide) lk_2 rfl dX4_valueOf_50 ?_
    refine lv_iload_n hx hb dX4_valueOf_53 rfl (lv_at hl 0 rfl) ?_
    refine k_i (wr := [(g0, .inr (4, [.ref e0, .ref s0, .ref u0, .ref k0, .ref g1, .int (nI no)])), (g1, .inl (cI, 24, .inl (nF o))), (e0, .inr (1, [.ref e1, .ref e2, .ref e3, .ref e4, .ref e5, .int (nI n), .int (zI dr)])), (e1, .inl (cI, 24, .inl kd)), (e2, .inl (cI, 24, .inl ag)), (e3, .inl (cI, 24, .inl (nF cb))), (e4, .inl (cI, 24, .inl (nF pb))), (e5, .inl (cI, 24, .inl (nF pp))), (u0, .inr (5, [.ref s0, .ref u1, .ref u2, .int al])), (u1, .inl (cI, 24, .inl mi)), (u2, .inl (cI, 24, .inl of_)), (k0, .inr (2, [.ref k1, .ref k2, .int (nI nk)])), (k1, .inl (cI, 6, .inl (nF ms))), (k2, .inl (cZ, 6, .inl (zF up)))]) (j_V ⟨hx, hb, hml, hown, hts⟩ (c_X7_sumOf l D cI cZ cB cJ b0 adK adV s0 s1 s2 s3 s4 s5 mk hd td su gr P sz (pb x) (by omega) H.size) (cwV 1 hts gX4_valueOf_X7_sumOf rfl rfl rfl (by decide +kernel) ⟨by decide, by decide⟩) hc hw [8, 9, 10, 11, 12, 13] rfl rfl 7 8 rfl rfl rfl rfl hl.1 rfl (Nat.le_of_ble_eq_true rfl) dX4_valueOf_54 ⟨by decide, by decide⟩) hc hw [8, 9, 10, 11, 12, 13] [0, 1, 2, 3, 4, 5, 6, 7, 14, 15, 16, 17, 18, 19] rfl rfl (by decide) (by decide) (fun r w H locs hq hw => ?_)
    obtain ⟨rfl, rfl⟩ := hq
    have hw : Wd D A s H locs [(g0, .inr (4, [.ref e0, .ref s0, .ref u0, .ref k0, .ref g1, .int (nI no)])), (g1, .inl (cI, 24, .inl (nF o))), (e0, .inr (1, [.ref e1, .ref e2, .ref e3, .ref e4, .ref e5, .int (nI n), .int (zI dr)])), (e1, .inl (cI, 24, .inl kd)), (e2, .inl (cI, 24, .inl ag)), (e3, .inl (cI, 24, .inl (nF cb))), (e4, .inl (cI, 24, .inl (nF pb))), (e5, .inl (cI, 24, .inl (nF pp))), (s0, .inr (7, [.ref s1, .ref s2, .ref s3, .ref s4, .ref s5, .int (nI P), .int sz])), (s1, .inl (cI, 480, .inl mk)), (s2, .inl (cI, 20, .inl hd)), (s3, .inl (cI, 120, .inl td)), (s4, .inl (cI, 24, .inl su)), (s5, .inl (cI, 24, .inl gr)), (u0, .inr (5, [.ref s0, .ref u1, .ref u2, .int al])), (u1, .inl (cI, 24, .inl mi)), (u2, .inl (cI, 24, .inl of_)), (k0, .inr (2, [.ref k1, .ref k2, .int (nI nk)])), (k1, .inl (cI, 6, .inl (nF ms))), (k2, .inl (cZ, 6, .inl (zF up)))] := hw.sub [0, 1, 2, 3, 4, 5, 6, 7, 14, 15, 16, 17, 18, 19, 8, 9, 10, 11, 12, 13] (by decide) rfl
    subst hQ
    exact r_i hx hb hr rfl hlk hw ⟨(by simp [vl, hz9]), rfl⟩ dX4_valueOf_57
  by_cases hs_1_2 : nI z = nI 2
  · skip
    refine lv_tableIn (off := 48) (tgt := 58) hx hb dX4_valueOf_10 (by rw [hs_1_2]; decide) (by rw [hs_1_2]; decide) (by rw [hs_1_2]; rfl) (by decide) ?_
    have hz9 : z = 2 := (nI_eq (by omega) (by decide)).mp hs_1_2
    refine lv_aload_n hx hb dX4_valueOf_58 rfl (lv_at hl 1 rfl) ?_
    refine w_get (C := RX4) (T := TX4) (N := 6) (ci := 4) hx hb hts in_4 hown hc hw 0 2 rfl rfl (by decide) lk_1 rfl dX4_valueOf_59 ?_
    refine lv_iload_n hx hb dX4_valueOf_62 rfl (lv_at hl 0 rfl) ?_
    refine k_i (wr := [(g0, .inr (4, [.ref e0, .ref s0, .ref u0, .ref k0, .ref g1, .int (nI no)])), (g1, .inl (cI, 24, .inl (nF o))), (e0, .inr (1, [.ref e1, .ref e2, .ref e3, .ref e4, .ref e5, .int (nI n), .int (zI dr)])), (e1, .inl (cI, 24, .inl kd)), (e2, .inl (cI, 24, .inl ag)), (e3, .inl (cI, 24, .inl (nF cb))), (e4, .inl (cI, 24, .inl (nF pb))), (e5, .inl (cI, 24, .inl (nF pp))), (s0, .inr (7, [.ref s1, .ref s2, .ref s3, .ref s4, .ref s5, .int (nI P), .int sz])), (s1, .inl (cI, 480, .inl mk)), (s2, .inl (cI, 20, .inl hd)), (s3, .inl (cI, 120, .inl td)), (s4, .inl (cI, 24, .inl su)), (s5, .inl (cI, 24, .inl gr)), (k0, .inr (2, [.ref k1, .ref k2, .int (nI nk)])), (k1, .inl (cI, 6, .inl (nF ms))), (k2, .inl (cZ, 6, .inl (zF up)))]) (j_V ⟨hx, hb, hml, hown, hts⟩ (c_X5_minutesOf l D cI cZ cB cJ b0 adK adV u0 s0 u1 u2 mi of_ al (pb x) (by omega) H.size) (cwV 1 hts gX4_valueOf_X5_minutesOf rfl rfl rfl (by decide +kernel) ⟨by decide, by decide⟩) hc hw [14, 15, 16] rfl rfl 5 14 rfl rfl rfl rfl hl.1 rfl (Nat.le_of_ble_eq_true rfl) dX4_valueOf_63 ⟨by decide, by decide⟩) hc hw [14, 15, 16] [0, 1, 2, 3, 4, 5, 6, 7, 8, 9, 10, 11, 12, 13, 17, 18, 19] rfl rfl (by decide) (by decide) (fun r w H locs hq hw => ?_)
    obtain ⟨rfl, rfl⟩ := hq
    have hw : Wd D A s H locs [(g0, .inr (4, [.ref e0, .ref s0, .ref u0, .ref k0, .ref g1, .int (nI no)])), (g1, .inl (cI, 24, .inl (nF o))), (e0, .inr (1, [.ref e1, .ref e2, .ref e3, .ref e4, .ref e5, .int (nI n), .int (zI dr)])), (e1, .inl (cI, 24, .inl kd)), (e2, .inl (cI, 24, .inl ag)), (e3, .inl (cI, 24, .inl (nF cb))), (e4, .inl (cI, 24, .inl (nF pb))), (e5, .inl (cI, 24, .inl (nF pp))), (s0, .inr (7, [.ref s1, .ref s2, .ref s3, .ref s4, .ref s5, .int (nI P), .int sz])), (s1, .inl (cI, 480, .inl mk)), (s2, .inl (cI, 20, .inl hd)), (s3, .inl (cI, 120, .inl td)), (s4, .inl (cI, 24, .inl su)), (s5, .inl (cI, 24, .inl gr)), (u0, .inr (5, [.ref s0, .ref u1, .ref u2, .int al])), (u1, .inl (cI, 24, .inl mi)), (u2, .inl (cI, 24, .inl of_)), (k0, .inr (2, [.ref k1, .ref k2, .int (nI nk)])), (k1, .inl (cI, 6, .inl (nF ms))), (k2, .inl (cZ, 6, .inl (zF up)))] := hw.sub [0, 1, 2, 3, 4, 5, 6, 7, 8, 9, 10, 11, 12, 13, 17, 18, 19, 14, 15, 16] (by decide) rfl
    subst hQ
    exact r_i hx hb hr rfl hlk hw ⟨(by simp [vl, hz9]), rfl⟩ dX4_valueOf_66
  by_cases hs_1_3 : nI z = nI 3
  · skip
    refine lv_tableIn (off := 57) (tgt := 67) hx hb dX4_valueOf_10 (by rw [hs_1_3]; decide) (by rw [hs_1_3]; decide) (by rw [hs_1_3]; rfl) (by decide) ?_
    have hz9 : z = 3 := (nI_eq (by omega) (by decide)).mp hs_1_3
    refine lv_aload_n hx hb dX4_valueOf_67 rfl (lv_at hl 1 rfl) ?_
    refine w_get (C := RX4) (T := TX4) (N := 6) (ci := 4) hx hb hts in_4 hown hc hw 0 0 rfl rfl (by decide) lk_0 rfl dX4_valueOf_68 ?_
    refine lv_iload_n hx hb dX4_valueOf_71 rfl (lv_at hl 2 rfl) ?_
    refine k_i (wr := [(g0, .inr (4, [.ref e0, .ref s0, .ref u0, .ref k0, .ref g1, .int (nI no)])), (g1, .inl (cI, 24, .inl (nF o))), (s0, .inr (7, [.ref s1, .ref s2, .ref s3, .ref s4, .ref s5, .int (nI P), .int sz])), (s1, .inl (cI, 480, .inl mk)), (s2, .inl (cI, 20, .inl hd)), (s3, .inl (cI, 120, .inl td)), (s4, .inl (cI, 24, .inl su)), (s5, .inl (cI, 24, .inl gr)), (u0, .inr (5, [.ref s0, .ref u1, .ref u2, .int al])), (u1, .inl (cI, 24, .inl mi)), (u2, .inl (cI, 24, .inl of_)), (k0, .inr (2, [.ref k1, .ref k2, .int (nI nk)])), (k1, .inl (cI, 6, .inl (nF ms))), (k2, .inl (cZ, 6, .inl (zF up)))]) (j_V ⟨hx, hb, hml, hown, hts⟩ (c_X1_ageOf l D cI cZ cB cJ b0 adK adV e0 e1 e2 e3 e4 e5 kd ag cb pb pp n dr x (by omega) H.size) (cwV 1 hts gX4_valueOf_X1_ageOf rfl rfl rfl (by decide +kernel) ⟨by decide, by decide⟩) hc hw [2, 3, 4, 5, 6, 7] rfl rfl 1 2 rfl rfl rfl rfl hl.1 rfl (Nat.le_of_ble_eq_true rfl) dX4_valueOf_72 ⟨by decide, by decide⟩) hc hw [2, 3, 4, 5, 6, 7] [0, 1, 8, 9, 10, 11, 12, 13, 14, 15, 16, 17, 18, 19] rfl rfl (by decide) (by decide) (fun r w H locs hq hw => ?_)
    obtain ⟨rfl, rfl⟩ := hq
    have hw : Wd D A s H locs [(g0, .inr (4, [.ref e0, .ref s0, .ref u0, .ref k0, .ref g1, .int (nI no)])), (g1, .inl (cI, 24, .inl (nF o))), (e0, .inr (1, [.ref e1, .ref e2, .ref e3, .ref e4, .ref e5, .int (nI n), .int (zI dr)])), (e1, .inl (cI, 24, .inl kd)), (e2, .inl (cI, 24, .inl ag)), (e3, .inl (cI, 24, .inl (nF cb))), (e4, .inl (cI, 24, .inl (nF pb))), (e5, .inl (cI, 24, .inl (nF pp))), (s0, .inr (7, [.ref s1, .ref s2, .ref s3, .ref s4, .ref s5, .int (nI P), .int sz])), (s1, .inl (cI, 480, .inl mk)), (s2, .inl (cI, 20, .inl hd)), (s3, .inl (cI, 120, .inl td)), (s4, .inl (cI, 24, .inl su)), (s5, .inl (cI, 24, .inl gr)), (u0, .inr (5, [.ref s0, .ref u1, .ref u2, .int al])), (u1, .inl (cI, 24, .inl mi)), (u2, .inl (cI, 24, .inl of_)), (k0, .inr (2, [.ref k1, .ref k2, .int (nI nk)])), (k1, .inl (cI, 6, .inl (nF ms))), (k2, .inl (cZ, 6, .inl (zF up)))] := hw.sub [0, 1, 14, 15, 16, 17, 18, 19, 2, 3, 4, 5, 6, 7, 8, 9, 10, 11, 12, 13] (by decide) rfl
    subst hQ
    exact r_i hx hb hr rfl hlk hw ⟨(by simp [vl, hz9]), rfl⟩ dX4_valueOf_75
  have hs_1 : ∀ i, i ≤ 3 → ¬ nI z = nI i := (fun i hi9 => by rcases (show i = 0 ∨ i = 1 ∨ i = 2 ∨ i = 3 by omega) with rfl | rfl | rfl | rfl <;> assumption)
  refine lv_tableOut (tgt := 76) hx hb dX4_valueOf_10 (sw_out hs_1) (by decide) ?_
  have hz9 : 4 ≤ z := (by have h0 := hs_1 0 (by decide); have h1 := hs_1 1 (by decide); have h2 := hs_1 2 (by decide); have h3 := hs_1 3 (by decide); rcases (show z = 0 ∨ z = 1 ∨ z = 2 ∨ z = 3 ∨ 4 ≤ z by omega) with rfl | rfl | rfl | rfl | h; exact absurd rfl h0; exact absurd rfl h1; exact absurd rfl h2; exact absurd rfl h3; exact h)
  refine lv_aload_n hx hb dX4_valueOf_76 rfl (lv_at hl 1 rfl) ?_
  refine w_get (C := RX4) (T := TX4) (N := 6) (ci := 4) hx hb hts in_4 hown hc hw 0 1 rfl rfl (by decide) lk_2 rfl dX4_valueOf_77 ?_
  refine lv_iload_n hx hb dX4_valueOf_80 rfl (lv_at hl 0 rfl) ?_
  refine lv_iload_n hx hb dX4_valueOf_81 rfl (lv_at hl 3 rfl) ?_
  refine lv_iconst (v := nI 4) hx hb dX4_valueOf_82 (by decide) ?_
  refine wn_isub hx hb (by omega) dX4_valueOf_83 ?_
  refine k_i (wr := [(g0, .inr (4, [.ref e0, .ref s0, .ref u0, .ref k0, .ref g1, .int (nI no)])), (g1, .inl (cI, 24, .inl (nF o))), (e0, .inr (1, [.ref e1, .ref e2, .ref e3, .ref e4, .ref e5, .int (nI n), .int (zI dr)])), (e1, .inl (cI, 24, .inl kd)), (e2, .inl (cI, 24, .inl ag)), (e3, .inl (cI, 24, .inl (nF cb))), (e4, .inl (cI, 24, .inl (nF pb))), (e5, .inl (cI, 24, .inl (nF pp))), (u0, .inr (5, [.ref s0, .ref u1, .ref u2, .int al])), (u1, .inl (cI, 24, .inl mi)), (u2, .inl (cI, 24, .inl of_)), (k0, .inr (2, [.ref k1, .ref k2, .int (nI nk)])), (k1, .inl (cI, 6, .inl (nF ms))), (k2, .inl (cZ, 6, .inl (zF up)))]) (j_V ⟨hx, hb, hml, hown, hts⟩ (c_X7_toldOf l D cI cZ cB cJ b0 adK adV s0 s1 s2 s3 s4 s5 mk hd td su gr P sz (pb x) (z - 4) (by omega) (by omega) H.size) (cwV 2 hts gX4_valueOf_X7_toldOf rfl rfl rfl (by decide +kernel) ⟨by decide, by decide⟩) hc hw [8, 9, 10, 11, 12, 13] rfl rfl 7 8 rfl rfl rfl rfl hl.1 rfl (Nat.le_of_ble_eq_true rfl) dX4_valueOf_84 ⟨by decide, by decide⟩) hc hw [8, 9, 10, 11, 12, 13] [0, 1, 2, 3, 4, 5, 6, 7, 14, 15, 16, 17, 18, 19] rfl rfl (by decide) (by decide) (fun r w H locs hq hw => ?_)
  obtain ⟨rfl, rfl⟩ := hq
  have hw : Wd D A s H locs [(g0, .inr (4, [.ref e0, .ref s0, .ref u0, .ref k0, .ref g1, .int (nI no)])), (g1, .inl (cI, 24, .inl (nF o))), (e0, .inr (1, [.ref e1, .ref e2, .ref e3, .ref e4, .ref e5, .int (nI n), .int (zI dr)])), (e1, .inl (cI, 24, .inl kd)), (e2, .inl (cI, 24, .inl ag)), (e3, .inl (cI, 24, .inl (nF cb))), (e4, .inl (cI, 24, .inl (nF pb))), (e5, .inl (cI, 24, .inl (nF pp))), (s0, .inr (7, [.ref s1, .ref s2, .ref s3, .ref s4, .ref s5, .int (nI P), .int sz])), (s1, .inl (cI, 480, .inl mk)), (s2, .inl (cI, 20, .inl hd)), (s3, .inl (cI, 120, .inl td)), (s4, .inl (cI, 24, .inl su)), (s5, .inl (cI, 24, .inl gr)), (u0, .inr (5, [.ref s0, .ref u1, .ref u2, .int al])), (u1, .inl (cI, 24, .inl mi)), (u2, .inl (cI, 24, .inl of_)), (k0, .inr (2, [.ref k1, .ref k2, .int (nI nk)])), (k1, .inl (cI, 6, .inl (nF ms))), (k2, .inl (cZ, 6, .inl (zF up)))] := hw.sub [0, 1, 2, 3, 4, 5, 6, 7, 14, 15, 16, 17, 18, 19, 8, 9, 10, 11, 12, 13] (by decide) rfl
  subst hQ
  exact r_i hx hb hr rfl hlk hw ⟨(by unfold vl; rw [if_neg (by omega), if_neg (by omega), if_neg (by omega), if_neg (by omega)]), rfl⟩ dX4_valueOf_87
def rm_c_X4_beats : Room := { frames := 3, cells := 0, slots := 0, locals := 66 }
set_option maxHeartbeats 4000000 in
set_option maxRecDepth 100000 in
theorem c_X4_beats (l : Launch) (D : va_G) (cI cZ cB cJ : ClassId) (b0 : Nat) (adK adV : Nat → Nat) (g0 g1 e0 e1 e2 e3 e4 e5 s0 s1 s2 s3 s4 s5 u0 u1 u2 k0 k1 k2 : Nat) (o : Nat → Nat) (no : Nat) (kd : Nat → Int32) (ag : Nat → Int32) (cb : Nat → Nat) (pb : Nat → Nat) (pp : Nat → Nat) (n : Nat) (dr : Bool) (mk : Nat → Int32) (hd : Nat → Int32) (td : Nat → Int32) (su : Nat → Int32) (gr : Nat → Int32) (P : Nat) (sz : Int32) (mi : Nat → Int32) (of_ : Nat → Int32) (al : Int32) (ms : Nat → Nat) (up : Nat → Bool) (nk : Nat) (x : Nat) (y : Nat) (hnk : nk ≤ 6) (hms : ∀ k, k < nk → ms k ≤ 8) (hx0 : x < 24) (hpx : pb x < 24) (hy0 : y < 24) (hpy : pb y < 24) : Mi l yX4_beats wsX4_beats rm_c_X4_beats D (TYs cI cZ cB cJ) b0 adK adV [.ref g0, .int (nI x), .int (nI y)] [(g0, .inr (4, [.ref e0, .ref s0, .ref u0, .ref k0, .ref g1, .int (nI no)])), (g1, .inl (cI, 24, .inl (nF o))), (e0, .inr (1, [.ref e1, .ref e2, .ref e3, .ref e4, .ref e5, .int (nI n), .int (zI dr)])), (e1, .inl (cI, 24, .inl kd)), (e2, .inl (cI, 24, .inl ag)), (e3, .inl (cI, 24, .inl (nF cb))), (e4, .inl (cI, 24, .inl (nF pb))), (e5, .inl (cI, 24, .inl (nF pp))), (s0, .inr (7, [.ref s1, .ref s2, .ref s3, .ref s4, .ref s5, .int (nI P), .int sz])), (s1, .inl (cI, 480, .inl mk)), (s2, .inl (cI, 20, .inl hd)), (s3, .inl (cI, 120, .inl td)), (s4, .inl (cI, 24, .inl su)), (s5, .inl (cI, 24, .inl gr)), (u0, .inr (5, [.ref s0, .ref u1, .ref u2, .int al])), (u1, .inl (cI, 24, .inl mi)), (u2, .inl (cI, 24, .inl of_)), (k0, .inr (2, [.ref k1, .ref k2, .int (nI nk)])), (k1, .inl (cI, 6, .inl (nF ms))), (k2, .inl (cZ, 6, .inl (zF up)))] (fun (r : Int32) (w : va_W) => r = zI (btF ag pb su gr td mi of_ al ms up nk x y) ∧ w = [(g0, .inr (4, [.ref e0, .ref s0, .ref u0, .ref k0, .ref g1, .int (nI no)])), (g1, .inl (cI, 24, .inl (nF o))), (e0, .inr (1, [.ref e1, .ref e2, .ref e3, .ref e4, .ref e5, .int (nI n), .int (zI dr)])), (e1, .inl (cI, 24, .inl kd)), (e2, .inl (cI, 24, .inl ag)), (e3, .inl (cI, 24, .inl (nF cb))), (e4, .inl (cI, 24, .inl (nF pb))), (e5, .inl (cI, 24, .inl (nF pp))), (s0, .inr (7, [.ref s1, .ref s2, .ref s3, .ref s4, .ref s5, .int (nI P), .int sz])), (s1, .inl (cI, 480, .inl mk)), (s2, .inl (cI, 20, .inl hd)), (s3, .inl (cI, 120, .inl td)), (s4, .inl (cI, 24, .inl su)), (s5, .inl (cI, 24, .inl gr)), (u0, .inr (5, [.ref s0, .ref u1, .ref u2, .int al])), (u1, .inl (cI, 24, .inl mi)), (u2, .inl (cI, 24, .inl of_)), (k0, .inr (2, [.ref k1, .ref k2, .int (nI nk)])), (k1, .inl (cI, 6, .inl (nF ms))), (k2, .inl (cZ, 6, .inl (zF up)))]) 0 0 := by
  refine e_M (Qf := fun A => va_Qi (fun (r : Int32) (w : va_W) => r = zI (btF ag pb su gr td mi of_ al ms up nk x y) ∧ w = [(g0, .inr (4, [.ref e0, .ref s0, .ref u0, .ref k0, .ref g1, .int (nI no)])), (g1, .inl (cI, 24, .inl (nF o))), (e0, .inr (1, [.ref e1, .ref e2, .ref e3, .ref e4, .ref e5, .int (nI n), .int (zI dr)])), (e1, .inl (cI, 24, .inl kd)), (e2, .inl (cI, 24, .inl ag)), (e3, .inl (cI, 24, .inl (nF cb))), (e4, .inl (cI, 24, .inl (nF pb))), (e5, .inl (cI, 24, .inl (nF pp))), (s0, .inr (7, [.ref s1, .ref s2, .ref s3, .ref s4, .ref s5, .int (nI P), .int sz])), (s1, .inl (cI, 480, .inl mk)), (s2, .inl (cI, 20, .inl hd)), (s3, .inl (cI, 120, .inl td)), (s4, .inl (cI, 24, .inl su)), (s5, .inl (cI, 24, .inl gr)), (u0, .inr (5, [.ref s0, .ref u1, .ref u2, .int al])), (u1, .inl (cI, 24, .inl mi)), (u2, .inl (cI, 24, .inl of_)), (k0, .inr (2, [.ref k1, .ref k2, .int (nI nk)])), (k1, .inl (cI, 6, .inl (nF ms))), (k2, .inl (cZ, 6, .inl (zF up)))]) (Bw D A) A) (cc := cX4_beats) (maxL := 6) (ret := (some .boolean)) (by decide) rfl (Nat.le_of_ble_eq_true rfl) ?_
  intro p e s m args below meth c ls A Q H locs hx hb hr hml hts hown hlk hnm hc hw hl hQ
  have hl : lv_has ls 6 [(0, .ref g0), (1, .int (nI x)), (2, .int (nI y))] := hl
  have in_4 : ∀ w ∈ u_ws RX4 TX4 6, w ∈ wsX4_beats := fun _ h => List.mem_cons_of_mem _ (List.mem_append_left _ (List.mem_append_left _ (List.mem_append_left _ (List.mem_append_left _ (List.mem_append_right _ h)))))
  have lk_0 := hts (.fieldLink RX4 31 "PloughingMatch$Ranking" "keys" "LPloughingMatch$Keys;") (List.mem_of_getElem? (i := 1) rfl)
  refine lv_iconst (v := nI 0) hx hb dX4_beats_0 (by decide) ?_
  refine lv_istore_n (lv' := [(3, .int (nI 0)), (0, .ref g0), (1, .int (nI x)), (2, .int (nI y))]) hx hb dX4_beats_1 rfl hl (by decide) rfl (fun ls hl => ?_)
  have key2 : ∀ (fuel : Nat) (k : Nat), k ≤ nk → btF ag pb su gr td mi of_ al ms up nk x y = bts (fun k => vl ag pb su gr td mi of_ al x (ms k)) (fun k => vl ag pb su gr td mi of_ al y (ms k)) up (nk - k) k → nk - k < fuel → ∀ (H : Heap) (locs : List Loc) (ls : Array Slot), Wd D A s H locs [(g0, .inr (4, [.ref e0, .ref s0, .ref u0, .ref k0, .ref g1, .int (nI no)])), (g1, .inl (cI, 24, .inl (nF o))), (e0, .inr (1, [.ref e1, .ref e2, .ref e3, .ref e4, .ref e5, .int (nI n), .int (zI dr)])), (e1, .inl (cI, 24, .inl kd)), (e2, .inl (cI, 24, .inl ag)), (e3, .inl (cI, 24, .inl (nF cb))), (e4, .inl (cI, 24, .inl (nF pb))), (e5, .inl (cI, 24, .inl (nF pp))), (s0, .inr (7, [.ref s1, .ref s2, .ref s3, .ref s4, .ref s5, .int (nI P), .int sz])), (s1, .inl (cI, 480, .inl mk)), (s2, .inl (cI, 20, .inl hd)), (s3, .inl (cI, 120, .inl td)), (s4, .inl (cI, 24, .inl su)), (s5, .inl (cI, 24, .inl gr)), (u0, .inr (5, [.ref s0, .ref u1, .ref u2, .int al])), (u1, .inl (cI, 24, .inl mi)), (u2, .inl (cI, 24, .inl of_)), (k0, .inr (2, [.ref k1, .ref k2, .int (nI nk)])), (k1, .inl (cI, 6, .inl (nF ms))), (k2, .inl (cZ, 6, .inl (zF up)))] → lv_has ls 6 [(0, .ref g0), (1, .int (nI x)), (2, .int (nI y)), (3, .int (nI k))] → W p l e rm_c_X4_beats s m args below meth c H locs 0 0 Q (F0 m 2 ls []) := by
    intro fuel
    induction fuel with
    | zero => intro k hk eq1 hfu; exact absurd hfu (Nat.not_lt_zero _)
    | succ fuel ih =>
      intro k hk eq1 hfu H locs ls hw hl
      have ih2 := ih
      refine lv_iload_n hx hb dX4_beats_2 rfl (lv_at hl 3 rfl) ?_
      refine lv_aload_n hx hb dX4_beats_3 rfl (lv_at hl 0 rfl) ?_
      refine w_get (C := RX4) (T := TX4) (N := 6) (ci := 4) hx hb hts in_4 hown hc hw 0 3 rfl rfl (by decide) lk_0 rfl dX4_beats_4 ?_
      refine k_i (wr := [(g0, .inr (4, [.ref e0, .ref s0, .ref u0, .ref k0, .ref g1, .int (nI no)])), (g1, .inl (cI, 24, .inl (nF o))), (e0, .inr (1, [.ref e1, .ref e2, .ref e3, .ref e4, .ref e5, .int (nI n), .int (zI dr)])), (e1, .inl (cI, 24, .inl kd)), (e2, .inl (cI, 24, .inl ag)), (e3, .inl (cI, 24, .inl (nF cb))), (e4, .inl (cI, 24, .inl (nF pb))), (e5, .inl (cI, 24, .inl (nF pp))), (s0, .inr (7, [.ref s1, .ref s2, .ref s3, .ref s4, .ref s5, .int (nI P), .int sz])), (s1, .inl (cI, 480, .inl mk)), (s2, .inl (cI, 20, .inl hd)), (s3, .inl (cI, 120, .inl td)), (s4, .inl (cI, 24, .inl su)), (s5, .inl (cI, 24, .inl gr)), (u0, .inr (5, [.ref s0, .ref u1, .ref u2, .int al])), (u1, .inl (cI, 24, .inl mi)), (u2, .inl (cI, 24, .inl of_))]) (j_V ⟨hx, hb, hml, hown, hts⟩ (c_X2_size l D cI cZ cB cJ b0 adK adV k0 k1 k2 ms up nk H.size) (cwV 0 hts gX4_beats_X2_size rfl rfl rfl (by decide +kernel) ⟨by decide, by decide⟩) hc hw [17, 18, 19] rfl rfl 2 17 rfl rfl rfl rfl hl.1 rfl (Nat.le_of_ble_eq_true rfl) dX4_beats_7 ⟨by decide, by decide⟩) hc hw [17, 18, 19] [0, 1, 2, 3, 4, 5, 6, 7, 8, 9, 10, 11, 12, 13, 14, 15, 16] rfl rfl (by decide) (by decide) (fun r w H locs hq hw => ?_)
      obtain ⟨rfl, rfl⟩ := hq
      have hw : Wd D A s H locs [(g0, .inr (4, [.ref e0, .ref s0, .ref u0, .ref k0, .ref g1, .int (nI no)])), (g1, .inl (cI, 24, .inl (nF o))), (e0, .inr (1, [.ref e1, .ref e2, .ref e3, .ref e4, .ref e5, .int (nI n), .int (zI dr)])), (e1, .inl (cI, 24, .inl kd)), (e2, .inl (cI, 24, .inl ag)), (e3, .inl (cI, 24, .inl (nF cb))), (e4, .inl (cI, 24, .inl (nF pb))), (e5, .inl (cI, 24, .inl (nF pp))), (s0, .inr (7, [.ref s1, .ref s2, .ref s3, .ref s4, .ref s5, .int (nI P), .int sz])), (s1, .inl (cI, 480, .inl mk)), (s2, .inl (cI, 20, .inl hd)), (s3, .inl (cI, 120, .inl td)), (s4, .inl (cI, 24, .inl su)), (s5, .inl (cI, 24, .inl gr)), (u0, .inr (5, [.ref s0, .ref u1, .ref u2, .int al])), (u1, .inl (cI, 24, .inl mi)), (u2, .inl (cI, 24, .inl of_)), (k0, .inr (2, [.ref k1, .ref k2, .int (nI nk)])), (k1, .inl (cI, 6, .inl (nF ms))), (k2, .inl (cZ, 6, .inl (zF up)))] := hw
      refine wb_icmp_ge (tgt := 85) hx hb (by omega) (by omega) dX4_beats_10 (by decide) (fun c_1 => ?_) (fun c_1 => ?_)
      · skip
        refine lv_iconst (v := nI 0) hx hb dX4_beats_85 (by decide) ?_
        subst hQ
        exact r_i hx hb hr rfl hlk hw ⟨(zI_f (by rw [eq1, show nk - k = 0 by omega]; rfl)), rfl⟩ dX4_beats_86
      · skip
        refine lv_aload_n hx hb dX4_beats_13 rfl (lv_at hl 0 rfl) ?_
        refine lv_iload_n hx hb dX4_beats_14 rfl (lv_at hl 1 rfl) ?_
        refine lv_aload_n hx hb dX4_beats_15 rfl (lv_at hl 0 rfl) ?_
        refine w_get (C := RX4) (T := TX4) (N := 6) (ci := 4) hx hb hts in_4 hown hc hw 0 3 rfl rfl (by decide) lk_0 rfl dX4_beats_16 ?_
        refine lv_iload_n hx hb dX4_beats_19 rfl (lv_at hl 3 rfl) ?_
        refine k_i (wr := [(g0, .inr (4, [.ref e0, .ref s0, .ref u0, .ref k0, .ref g1, .int (nI no)])), (g1, .inl (cI, 24, .inl (nF o))), (e0, .inr (1, [.ref e1, .ref e2, .ref e3, .ref e4, .ref e5, .int (nI n), .int (zI dr)])), (e1, .inl (cI, 24, .inl kd)), (e2, .inl (cI, 24, .inl ag)), (e3, .inl (cI, 24, .inl (nF cb))), (e4, .inl (cI, 24, .inl (nF pb))), (e5, .inl (cI, 24, .inl (nF pp))), (s0, .inr (7, [.ref s1, .ref s2, .ref s3, .ref s4, .ref s5, .int (nI P), .int sz])), (s1, .inl (cI, 480, .inl mk)), (s2, .inl (cI, 20, .inl hd)), (s3, .inl (cI, 120, .inl td)), (s4, .inl (cI, 24, .inl su)), (s5, .inl (cI, 24, .inl gr)), (u0, .inr (5, [.ref s0, .ref u1, .ref u2, .int al])), (u1, .inl (cI, 24, .inl mi)), (u2, .inl (cI, 24, .inl of_))]) (j_V ⟨hx, hb, hml, hown, hts⟩ (c_X2_measureAt l D cI cZ cB cJ b0 adK adV k0 k1 k2 ms up nk k (by omega) H.size) (cwV 1 hts gX4_beats_X2_measureAt rfl rfl rfl (by decide +kernel) ⟨by decide, by decide⟩) hc hw [17, 18, 19] rfl rfl 2 17 rfl rfl rfl rfl hl.1 rfl (Nat.le_of_ble_eq_true rfl) dX4_beats_20 ⟨by decide, by decide⟩) hc hw [17, 18, 19] [0, 1, 2, 3, 4, 5, 6, 7, 8, 9, 10, 11, 12, 13, 14, 15, 16] rfl rfl (by decide) (by decide) (fun r w H locs hq hw => ?_)
        obtain ⟨rfl, rfl⟩ := hq
        have hw : Wd D A s H locs [(g0, .inr (4, [.ref e0, .ref s0, .ref u0, .ref k0, .ref g1, .int (nI no)])), (g1, .inl (cI, 24, .inl (nF o))), (e0, .inr (1, [.ref e1, .ref e2, .ref e3, .ref e4, .ref e5, .int (nI n), .int (zI dr)])), (e1, .inl (cI, 24, .inl kd)), (e2, .inl (cI, 24, .inl ag)), (e3, .inl (cI, 24, .inl (nF cb))), (e4, .inl (cI, 24, .inl (nF pb))), (e5, .inl (cI, 24, .inl (nF pp))), (s0, .inr (7, [.ref s1, .ref s2, .ref s3, .ref s4, .ref s5, .int (nI P), .int sz])), (s1, .inl (cI, 480, .inl mk)), (s2, .inl (cI, 20, .inl hd)), (s3, .inl (cI, 120, .inl td)), (s4, .inl (cI, 24, .inl su)), (s5, .inl (cI, 24, .inl gr)), (u0, .inr (5, [.ref s0, .ref u1, .ref u2, .int al])), (u1, .inl (cI, 24, .inl mi)), (u2, .inl (cI, 24, .inl of_)), (k0, .inr (2, [.ref k1, .ref k2, .int (nI nk)])), (k1, .inl (cI, 6, .inl (nF ms))), (k2, .inl (cZ, 6, .inl (zF up)))] := hw
        refine k_i (wr := []) (j_V ⟨hx, hb, hml, hown, hts⟩ (c_X4_valueOf l D cI cZ cB cJ b0 adK adV g0 g1 e0 e1 e2 e3 e4 e5 s0 s1 s2 s3 s4 s5 u0 u1 u2 k0 k1 k2 o no kd ag cb pb pp n dr mk hd td su gr P sz mi of_ al ms up nk x (ms k) (by omega) (by omega) (hms k (by omega)) H.size) (cwV 2 hts gX4_beats_X4_valueOf rfl rfl rfl (by decide +kernel) ⟨by decide, by decide⟩) hc hw [0, 1, 2, 3, 4, 5, 6, 7, 8, 9, 10, 11, 12, 13, 14, 15, 16, 17, 18, 19] rfl rfl 4 0 rfl rfl rfl rfl hl.1 rfl (Nat.le_of_ble_eq_true rfl) dX4_beats_23 ⟨by decide, by decide⟩) hc hw [0, 1, 2, 3, 4, 5, 6, 7, 8, 9, 10, 11, 12, 13, 14, 15, 16, 17, 18, 19] [] rfl rfl (by decide) (by decide) (fun r w H locs hq hw => ?_)
        obtain ⟨rfl, rfl⟩ := hq
        have hw : Wd D A s H locs [(g0, .inr (4, [.ref e0, .ref s0, .ref u0, .ref k0, .ref g1, .int (nI no)])), (g1, .inl (cI, 24, .inl (nF o))), (e0, .inr (1, [.ref e1, .ref e2, .ref e3, .ref e4, .ref e5, .int (nI n), .int (zI dr)])), (e1, .inl (cI, 24, .inl kd)), (e2, .inl (cI, 24, .inl ag)), (e3, .inl (cI, 24, .inl (nF cb))), (e4, .inl (cI, 24, .inl (nF pb))), (e5, .inl (cI, 24, .inl (nF pp))), (s0, .inr (7, [.ref s1, .ref s2, .ref s3, .ref s4, .ref s5, .int (nI P), .int sz])), (s1, .inl (cI, 480, .inl mk)), (s2, .inl (cI, 20, .inl hd)), (s3, .inl (cI, 120, .inl td)), (s4, .inl (cI, 24, .inl su)), (s5, .inl (cI, 24, .inl gr)), (u0, .inr (5, [.ref s0, .ref u1, .ref u2, .int al])), (u1, .inl (cI, 24, .inl mi)), (u2, .inl (cI, 24, .inl of_)), (k0, .inr (2, [.ref k1, .ref k2, .int (nI nk)])), (k1, .inl (cI, 6, .inl (nF ms))), (k2, .inl (cZ, 6, .inl (zF up)))] := hw
        refine lv_istore (lv' := [(4, .int (vl ag pb su gr td mi of_ al x (ms k))), (0, .ref g0), (1, .int (nI x)), (2, .int (nI y)), (3, .int (nI k))]) hx hb dX4_beats_26 hl (by decide) rfl (fun ls hl => ?_)
        refine lv_aload_n hx hb dX4_beats_28 rfl (lv_at hl 1 rfl) ?_
        refine lv_iload_n hx hb dX4_beats_29 rfl (lv_at hl 3 rfl) ?_
        refine lv_aload_n hx hb dX4_beats_30 rfl (lv_at hl 1 rfl) ?_
        refine w_get (C := RX4) (T := TX4) (N := 6) (ci := 4) hx hb hts in_4 hown hc hw 0 3 rfl rfl (by decide) lk_0 rfl dX4_beats_31 ?_
        refine lv_iload_n hx hb dX4_beats_34 rfl (lv_at hl 4 rfl) ?_
        refine k_i (wr := [(g0, .inr (4, [.ref e0, .ref s0, .ref u0, .ref k0, .ref g1, .int (nI no)])), (g1, .inl (cI, 24, .inl (nF o))), (e0, .inr (1, [.ref e1, .ref e2, .ref e3, .ref e4, .ref e5, .int (nI n), .int (zI dr)])), (e1, .inl (cI, 24, .inl kd)), (e2, .inl (cI, 24, .inl ag)), (e3, .inl (cI, 24, .inl (nF cb))), (e4, .inl (cI, 24, .inl (nF pb))), (e5, .inl (cI, 24, .inl (nF pp))), (s0, .inr (7, [.ref s1, .ref s2, .ref s3, .ref s4, .ref s5, .int (nI P), .int sz])), (s1, .inl (cI, 480, .inl mk)), (s2, .inl (cI, 20, .inl hd)), (s3, .inl (cI, 120, .inl td)), (s4, .inl (cI, 24, .inl su)), (s5, .inl (cI, 24, .inl gr)), (u0, .inr (5, [.ref s0, .ref u1, .ref u2, .int al])), (u1, .inl (cI, 24, .inl mi)), (u2, .inl (cI, 24, .inl of_))]) (j_V ⟨hx, hb, hml, hown, hts⟩ (c_X2_measureAt l D cI cZ cB cJ b0 adK adV k0 k1 k2 ms up nk k (by omega) H.size) (cwV 1 hts gX4_beats_X2_measureAt rfl rfl rfl (by decide +kernel) ⟨by decide, by decide⟩) hc hw [17, 18, 19] rfl rfl 2 17 rfl rfl rfl rfl hl.1 rfl (Nat.le_of_ble_eq_true rfl) dX4_beats_35 ⟨by decide, by decide⟩) hc hw [17, 18, 19] [0, 1, 2, 3, 4, 5, 6, 7, 8, 9, 10, 11, 12, 13, 14, 15, 16] rfl rfl (by decide) (by decide) (fun r w H locs hq hw => ?_)
        obtain ⟨rfl, rfl⟩ := hq
        have hw : Wd D A s H locs [(g0, .inr (4, [.ref e0, .ref s0, .ref u0, .ref k0, .ref g1, .int (nI no)])), (g1, .inl (cI, 24, .inl (nF o))), (e0, .inr (1, [.ref e1, .ref e2, .ref e3, .ref e4, .ref e5, .int (nI n), .int (zI dr)])), (e1, .inl (cI, 24, .inl kd)), (e2, .inl (cI, 24, .inl ag)), (e3, .inl (cI, 24, .inl (nF cb))), (e4, .inl (cI, 24, .inl (nF pb))), (e5, .inl (cI, 24, .inl (nF pp))), (s0, .inr (7, [.ref s1, .ref s2, .ref s3, .ref s4, .ref s5, .int (nI P), .int sz])), (s1, .inl (cI, 480, .inl mk)), (s2, .inl (cI, 20, .inl hd)), (s3, .inl (cI, 120, .inl td)), (s4, .inl (cI, 24, .inl su)), (s5, .inl (cI, 24, .inl gr)), (u0, .inr (5, [.ref s0, .ref u1, .ref u2, .int al])), (u1, .inl (cI, 24, .inl mi)), (u2, .inl (cI, 24, .inl of_)), (k0, .inr (2, [.ref k1, .ref k2, .int (nI nk)])), (k1, .inl (cI, 6, .inl (nF ms))), (k2, .inl (cZ, 6, .inl (zF up)))] := hw
        refine k_i (wr := []) (j_V ⟨hx, hb, hml, hown, hts⟩ (c_X4_valueOf l D cI cZ cB cJ b0 adK adV g0 g1 e0 e1 e2 e3 e4 e5 s0 s1 s2 s3 s4 s5 u0 u1 u2 k0 k1 k2 o no kd ag cb pb pp n dr mk hd td su gr P sz mi of_ al ms up nk y (ms k) (by omega) (by omega) (hms k (by omega)) H.size) (cwV 2 hts gX4_beats_X4_valueOf rfl rfl rfl (by decide +kernel) ⟨by decide, by decide⟩) hc hw [0, 1, 2, 3, 4, 5, 6, 7, 8, 9, 10, 11, 12, 13, 14, 15, 16, 17, 18, 19] rfl rfl 4 0 rfl rfl rfl rfl hl.1 rfl (Nat.le_of_ble_eq_true rfl) dX4_beats_38 ⟨by decide, by decide⟩) hc hw [0, 1, 2, 3, 4, 5, 6, 7, 8, 9, 10, 11, 12, 13, 14, 15, 16, 17, 18, 19] [] rfl rfl (by decide) (by decide) (fun r w H locs hq hw => ?_)
        obtain ⟨rfl, rfl⟩ := hq
        have hw : Wd D A s H locs [(g0, .inr (4, [.ref e0, .ref s0, .ref u0, .ref k0, .ref g1, .int (nI no)])), (g1, .inl (cI, 24, .inl (nF o))), (e0, .inr (1, [.ref e1, .ref e2, .ref e3, .ref e4, .ref e5, .int (nI n), .int (zI dr)])), (e1, .inl (cI, 24, .inl kd)), (e2, .inl (cI, 24, .inl ag)), (e3, .inl (cI, 24, .inl (nF cb))), (e4, .inl (cI, 24, .inl (nF pb))), (e5, .inl (cI, 24, .inl (nF pp))), (s0, .inr (7, [.ref s1, .ref s2, .ref s3, .ref s4, .ref s5, .int (nI P), .int sz])), (s1, .inl (cI, 480, .inl mk)), (s2, .inl (cI, 20, .inl hd)), (s3, .inl (cI, 120, .inl td)), (s4, .inl (cI, 24, .inl su)), (s5, .inl (cI, 24, .inl gr)), (u0, .inr (5, [.ref s0, .ref u1, .ref u2, .int al])), (u1, .inl (cI, 24, .inl mi)), (u2, .inl (cI, 24, .inl of_)), (k0, .inr (2, [.ref k1, .ref k2, .int (nI nk)])), (k1, .inl (cI, 6, .inl (nF ms))), (k2, .inl (cZ, 6, .inl (zF up)))] := hw
        refine lv_istore (lv' := [(5, .int (vl ag pb su gr td mi of_ al y (ms k))), (4, .int (vl ag pb su gr td mi of_ al x (ms k))), (0, .ref g0), (1, .int (nI x)), (2, .int (nI y)), (3, .int (nI k))]) hx hb dX4_beats_41 hl (by decide) rfl (fun ls hl => ?_)
        refine lv_iload hx hb dX4_beats_43 (lv_at hl 1 rfl) ?_
        refine lv_iload hx hb dX4_beats_45 (lv_at hl 0 rfl) ?_
        refine lv_icmp_eq (tgt := 79) hx hb dX4_beats_47 (by decide) (fun c_2 => ?_) (fun c_2 => ?_)
        · skip
          refine wn_iinc (a := k) (d := 1) (lv' := [(3, .int (nI (k + 1))), (5, .int (vl ag pb su gr td mi of_ al y (ms k))), (4, .int (vl ag pb su gr td mi of_ al x (ms k))), (0, .ref g0), (1, .int (nI x)), (2, .int (nI y))]) hx hb dX4_beats_79 hl (k := 5) rfl (by decide) rfl (fun ls hl => ?_)
          refine lv_goto (tgt := 2) hx hb dX4_beats_82 (by decide) ?_
          exact ih2 (k + 1) (by omega) (by rw [eq1, bts_s (by omega)]; exact if_pos (by assumption)) (by omega) _ _ _ hw (lv_sub hl [3, 4, 5, 0] rfl)
        · skip
          refine lv_iload hx hb dX4_beats_50 (lv_at hl 1 rfl) ?_
          refine lv_iload hx hb dX4_beats_52 (lv_at hl 0 rfl) ?_
          refine lv_icmp_ge (tgt := 61) hx hb dX4_beats_54 (by decide) (fun c_3 => ?_) (fun c_3 => ?_)
          · skip
            have c_3' := i32_nlt.mpr c_3
            refine lv_iconst (v := nI 0) hx hb dX4_beats_61 (by decide) ?_
            refine lv_aload_n hx hb dX4_beats_62 rfl (lv_at hl 2 rfl) ?_
            refine w_get (C := RX4) (T := TX4) (N := 6) (ci := 4) hx hb hts in_4 hown hc hw 0 3 rfl rfl (by decide) lk_0 rfl dX4_beats_63 ?_
            refine lv_iload_n hx hb dX4_beats_66 rfl (lv_at hl 5 rfl) ?_
            refine k_i (wr := [(g0, .inr (4, [.ref e0, .ref s0, .ref u0, .ref k0, .ref g1, .int (nI no)])), (g1, .inl (cI, 24, .inl (nF o))), (e0, .inr (1, [.ref e1, .ref e2, .ref e3, .ref e4, .ref e5, .int (nI n), .int (zI dr)])), (e1, .inl (cI, 24, .inl kd)), (e2, .inl (cI, 24, .inl ag)), (e3, .inl (cI, 24, .inl (nF cb))), (e4, .inl (cI, 24, .inl (nF pb))), (e5, .inl (cI, 24, .inl (nF pp))), (s0, .inr (7, [.ref s1, .ref s2, .ref s3, .ref s4, .ref s5, .int (nI P), .int sz])), (s1, .inl (cI, 480, .inl mk)), (s2, .inl (cI, 20, .inl hd)), (s3, .inl (cI, 120, .inl td)), (s4, .inl (cI, 24, .inl su)), (s5, .inl (cI, 24, .inl gr)), (u0, .inr (5, [.ref s0, .ref u1, .ref u2, .int al])), (u1, .inl (cI, 24, .inl mi)), (u2, .inl (cI, 24, .inl of_))]) (j_V ⟨hx, hb, hml, hown, hts⟩ (c_X2_isUp l D cI cZ cB cJ b0 adK adV k0 k1 k2 ms up nk k (by omega) H.size) (cwV 1 hts gX4_beats_X2_isUp rfl rfl rfl (by decide +kernel) ⟨by decide, by decide⟩) hc hw [17, 18, 19] rfl rfl 2 17 rfl rfl rfl rfl hl.1 rfl (Nat.le_of_ble_eq_true rfl) dX4_beats_67 ⟨by decide, by decide⟩) hc hw [17, 18, 19] [0, 1, 2, 3, 4, 5, 6, 7, 8, 9, 10, 11, 12, 13, 14, 15, 16] rfl rfl (by decide) (by decide) (fun r w H locs hq hw => ?_)
            obtain ⟨rfl, rfl⟩ := hq
            have hw : Wd D A s H locs [(g0, .inr (4, [.ref e0, .ref s0, .ref u0, .ref k0, .ref g1, .int (nI no)])), (g1, .inl (cI, 24, .inl (nF o))), (e0, .inr (1, [.ref e1, .ref e2, .ref e3, .ref e4, .ref e5, .int (nI n), .int (zI dr)])), (e1, .inl (cI, 24, .inl kd)), (e2, .inl (cI, 24, .inl ag)), (e3, .inl (cI, 24, .inl (nF cb))), (e4, .inl (cI, 24, .inl (nF pb))), (e5, .inl (cI, 24, .inl (nF pp))), (s0, .inr (7, [.ref s1, .ref s2, .ref s3, .ref s4, .ref s5, .int (nI P), .int sz])), (s1, .inl (cI, 480, .inl mk)), (s2, .inl (cI, 20, .inl hd)), (s3, .inl (cI, 120, .inl td)), (s4, .inl (cI, 24, .inl su)), (s5, .inl (cI, 24, .inl gr)), (u0, .inr (5, [.ref s0, .ref u1, .ref u2, .int al])), (u1, .inl (cI, 24, .inl mi)), (u2, .inl (cI, 24, .inl of_)), (k0, .inr (2, [.ref k1, .ref k2, .int (nI nk)])), (k1, .inl (cI, 6, .inl (nF ms))), (k2, .inl (cZ, 6, .inl (zF up)))] := hw
            refine lv_icmp_ne (tgt := 77) hx hb dX4_beats_70 (by decide) (fun c_4 => ?_) (fun c_4 => ?_)
            · skip
              refine lv_iconst (v := nI 0) hx hb dX4_beats_77 (by decide) ?_
              subst hQ
              exact r_i hx hb hr rfl hlk hw ⟨(zI_f (by rw [eq1, bts_s (by omega)]; rw [if_neg (by assumption)]; simp [zI_1i, zI_0i] at c_4; simp [c_3, c_3', c_4])), rfl⟩ dX4_beats_78
            · skip
              refine lv_iconst (v := nI 1) hx hb dX4_beats_73 (by decide) ?_
              refine lv_goto (tgt := 78) hx hb dX4_beats_74 (by decide) ?_
              subst hQ
              exact r_i hx hb hr rfl hlk hw ⟨(zI_t (by rw [eq1, bts_s (by omega)]; rw [if_neg (by assumption)]; simp [zI_1i, zI_0i] at c_4; simp [c_3, c_3', c_4])), rfl⟩ dX4_beats_78
          · skip
            have c_3' := i32_nle.mp c_3
            refine lv_iconst (v := nI 1) hx hb dX4_beats_57 (by decide) ?_
            refine lv_goto (tgt := 62) hx hb dX4_beats_58 (by decide) ?_
            refine lv_aload_n hx hb dX4_beats_62 rfl (lv_at hl 2 rfl) ?_
            refine w_get (C := RX4) (T := TX4) (N := 6) (ci := 4) hx hb hts in_4 hown hc hw 0 3 rfl rfl (by decide) lk_0 rfl dX4_beats_63 ?_
            refine lv_iload_n hx hb dX4_beats_66 rfl (lv_at hl 5 rfl) ?_
            refine k_i (wr := [(g0, .inr (4, [.ref e0, .ref s0, .ref u0, .ref k0, .ref g1, .int (nI no)])), (g1, .inl (cI, 24, .inl (nF o))), (e0, .inr (1, [.ref e1, .ref e2, .ref e3, .ref e4, .ref e5, .int (nI n), .int (zI dr)])), (e1, .inl (cI, 24, .inl kd)), (e2, .inl (cI, 24, .inl ag)), (e3, .inl (cI, 24, .inl (nF cb))), (e4, .inl (cI, 24, .inl (nF pb))), (e5, .inl (cI, 24, .inl (nF pp))), (s0, .inr (7, [.ref s1, .ref s2, .ref s3, .ref s4, .ref s5, .int (nI P), .int sz])), (s1, .inl (cI, 480, .inl mk)), (s2, .inl (cI, 20, .inl hd)), (s3, .inl (cI, 120, .inl td)), (s4, .inl (cI, 24, .inl su)), (s5, .inl (cI, 24, .inl gr)), (u0, .inr (5, [.ref s0, .ref u1, .ref u2, .int al])), (u1, .inl (cI, 24, .inl mi)), (u2, .inl (cI, 24, .inl of_))]) (j_V ⟨hx, hb, hml, hown, hts⟩ (c_X2_isUp l D cI cZ cB cJ b0 adK adV k0 k1 k2 ms up nk k (by omega) H.size) (cwV 1 hts gX4_beats_X2_isUp rfl rfl rfl (by decide +kernel) ⟨by decide, by decide⟩) hc hw [17, 18, 19] rfl rfl 2 17 rfl rfl rfl rfl hl.1 rfl (Nat.le_of_ble_eq_true rfl) dX4_beats_67 ⟨by decide, by decide⟩) hc hw [17, 18, 19] [0, 1, 2, 3, 4, 5, 6, 7, 8, 9, 10, 11, 12, 13, 14, 15, 16] rfl rfl (by decide) (by decide) (fun r w H locs hq hw => ?_)
            obtain ⟨rfl, rfl⟩ := hq
            have hw : Wd D A s H locs [(g0, .inr (4, [.ref e0, .ref s0, .ref u0, .ref k0, .ref g1, .int (nI no)])), (g1, .inl (cI, 24, .inl (nF o))), (e0, .inr (1, [.ref e1, .ref e2, .ref e3, .ref e4, .ref e5, .int (nI n), .int (zI dr)])), (e1, .inl (cI, 24, .inl kd)), (e2, .inl (cI, 24, .inl ag)), (e3, .inl (cI, 24, .inl (nF cb))), (e4, .inl (cI, 24, .inl (nF pb))), (e5, .inl (cI, 24, .inl (nF pp))), (s0, .inr (7, [.ref s1, .ref s2, .ref s3, .ref s4, .ref s5, .int (nI P), .int sz])), (s1, .inl (cI, 480, .inl mk)), (s2, .inl (cI, 20, .inl hd)), (s3, .inl (cI, 120, .inl td)), (s4, .inl (cI, 24, .inl su)), (s5, .inl (cI, 24, .inl gr)), (u0, .inr (5, [.ref s0, .ref u1, .ref u2, .int al])), (u1, .inl (cI, 24, .inl mi)), (u2, .inl (cI, 24, .inl of_)), (k0, .inr (2, [.ref k1, .ref k2, .int (nI nk)])), (k1, .inl (cI, 6, .inl (nF ms))), (k2, .inl (cZ, 6, .inl (zF up)))] := hw
            refine lv_icmp_ne (tgt := 77) hx hb dX4_beats_70 (by decide) (fun c_5 => ?_) (fun c_5 => ?_)
            · skip
              refine lv_iconst (v := nI 0) hx hb dX4_beats_77 (by decide) ?_
              subst hQ
              exact r_i hx hb hr rfl hlk hw ⟨(zI_f (by rw [eq1, bts_s (by omega)]; rw [if_neg (by assumption)]; simp [zI_1i, zI_0i] at c_5; simp [c_3, c_3', c_5])), rfl⟩ dX4_beats_78
            · skip
              refine lv_iconst (v := nI 1) hx hb dX4_beats_73 (by decide) ?_
              refine lv_goto (tgt := 78) hx hb dX4_beats_74 (by decide) ?_
              subst hQ
              exact r_i hx hb hr rfl hlk hw ⟨(zI_t (by rw [eq1, bts_s (by omega)]; rw [if_neg (by assumption)]; simp [zI_1i, zI_0i] at c_5; simp [c_3, c_3', c_5])), rfl⟩ dX4_beats_78
  exact key2 (nk - 0 + 1) 0 (by omega) rfl (Nat.lt_succ_self _) _ _ _ hw (lv_sub hl [1, 2, 3, 0] rfl)
def rm_c_X4_size : Room := { frames := 0, cells := 0, slots := 0, locals := 0 }
set_option maxHeartbeats 4000000 in
set_option maxRecDepth 100000 in
theorem c_X4_size (l : Launch) (D : va_G) (cI cZ cB cJ : ClassId) (b0 : Nat) (adK adV : Nat → Nat) (g0 g1 : Nat) (o : Nat → Nat) (no : Nat) (e0 : Nat) (s0 : Nat) (u0 : Nat) (k0 : Nat) : Mi l yX4_size wsX4_size rm_c_X4_size D (TYs cI cZ cB cJ) b0 adK adV [.ref g0] [(g0, .inr (4, [.ref e0, .ref s0, .ref u0, .ref k0, .ref g1, .int (nI no)])), (g1, .inl (cI, 24, .inl (nF o)))] (fun (r : Int32) (w : va_W) => r = nI no ∧ w = [(g0, .inr (4, [.ref e0, .ref s0, .ref u0, .ref k0, .ref g1, .int (nI no)])), (g1, .inl (cI, 24, .inl (nF o)))]) 0 0 := by
  refine e_M (Qf := fun A => va_Qi (fun (r : Int32) (w : va_W) => r = nI no ∧ w = [(g0, .inr (4, [.ref e0, .ref s0, .ref u0, .ref k0, .ref g1, .int (nI no)])), (g1, .inl (cI, 24, .inl (nF o)))]) (Bw D A) A) (cc := cX4_size) (maxL := 1) (ret := (some .int)) (by decide) rfl (Nat.le_of_ble_eq_true rfl) ?_
  intro p e s m args below meth c ls A Q H locs hx hb hr hml hts hown hlk hnm hc hw hl hQ
  have hl : lv_has ls 1 [(0, .ref g0)] := hl
  have in_4 : ∀ w ∈ u_ws RX4 TX4 6, w ∈ wsX4_size := fun _ h => List.mem_cons_of_mem _ (List.mem_append_right _ h)
  have lk_0 := hts (.fieldLink RX4 15 "PloughingMatch$Ranking" "size" "I") (List.mem_of_getElem? (i := 1) rfl)
  refine lv_aload_n hx hb dX4_size_0 rfl (lv_at hl 0 rfl) ?_
  refine w_get (C := RX4) (T := TX4) (N := 6) (ci := 4) hx hb hts in_4 hown hc hw 0 5 rfl rfl (by decide) lk_0 rfl dX4_size_1 ?_
  subst hQ
  exact r_i hx hb hr rfl hlk hw ⟨rfl, rfl⟩ dX4_size_4
def rm_c_X4_ploughmanAt : Room := { frames := 1, cells := 0, slots := 0, locals := 21 }
set_option maxHeartbeats 4000000 in
set_option maxRecDepth 100000 in
theorem c_X4_ploughmanAt (l : Launch) (D : va_G) (cI cZ cB cJ : ClassId) (b0 : Nat) (adK adV : Nat → Nat) (g0 g1 : Nat) (o : Nat → Nat) (no : Nat) (e0 : Nat) (s0 : Nat) (u0 : Nat) (k0 : Nat) (k : Nat) (hno : no ≤ 24) (hk : k < no) : Mi l yX4_ploughmanAt wsX4_ploughmanAt rm_c_X4_ploughmanAt D (TYs cI cZ cB cJ) b0 adK adV [.ref g0, .int (nI k)] [(g0, .inr (4, [.ref e0, .ref s0, .ref u0, .ref k0, .ref g1, .int (nI no)])), (g1, .inl (cI, 24, .inl (nF o)))] (fun (r : Int32) (w : va_W) => r = nI (o k) ∧ w = [(g0, .inr (4, [.ref e0, .ref s0, .ref u0, .ref k0, .ref g1, .int (nI no)])), (g1, .inl (cI, 24, .inl (nF o)))]) 0 0 := by
  refine e_M (Qf := fun A => va_Qi (fun (r : Int32) (w : va_W) => r = nI (o k) ∧ w = [(g0, .inr (4, [.ref e0, .ref s0, .ref u0, .ref k0, .ref g1, .int (nI no)])), (g1, .inl (cI, 24, .inl (nF o)))]) (Bw D A) A) (cc := cX4_ploughmanAt) (maxL := 2) (ret := (some .int)) (by decide) rfl (Nat.le_of_ble_eq_true rfl) ?_
  intro p e s m args below meth c ls A Q H locs hx hb hr hml hts hown hlk hnm hc hw hl hQ
  have hl : lv_has ls 2 [(0, .ref g0), (1, .int (nI k))] := hl
  have in_4 : ∀ w ∈ u_ws RX4 TX4 6, w ∈ wsX4_ploughmanAt := fun _ h => List.mem_cons_of_mem _ (List.mem_append_right _ h)
  have lk_0 := hts (.fieldLink RX4 15 "PloughingMatch$Ranking" "size" "I") (List.mem_of_getElem? (i := 1) rfl)
  have lk_1 := hts (.initialized RX9) (List.mem_of_getElem? (i := 4) rfl)
  have lk_2 := hts (.static yX9_isBelow) (List.mem_of_getElem? (i := 3) rfl)
  have lk_3 := hts (.fieldLink RX4 9 "PloughingMatch$Ranking" "order" "[I") (List.mem_of_getElem? (i := 2) rfl)
  refine lv_iload_n hx hb dX4_ploughmanAt_0 rfl (lv_at hl 1 rfl) ?_
  refine lv_aload_n hx hb dX4_ploughmanAt_1 rfl (lv_at hl 0 rfl) ?_
  refine w_get (C := RX4) (T := TX4) (N := 6) (ci := 4) hx hb hts in_4 hown hc hw 0 5 rfl rfl (by decide) lk_0 rfl dX4_ploughmanAt_2 ?_
  refine k_i (wr := [(g0, .inr (4, [.ref e0, .ref s0, .ref u0, .ref k0, .ref g1, .int (nI no)])), (g1, .inl (cI, 24, .inl (nF o)))]) (j_SN ⟨hx, hb, hml, hown, hts⟩ (c_X9_isBelow l D cI cZ cB cJ b0 adK adV (nI k) (nI no) H.size) ⟨(va_cnB 2 hts gX4_ploughmanAt_X9_isBelow_n48 rfl rfl rfl (hc.2.2.2.2.1 _ (List.mem_of_getElem? (i := 7) rfl)) lk_1 (by decide +kernel) ⟨by decide, by decide⟩), lk_2, trivial⟩ hc hw [] rfl rfl rfl hl.1 rfl (Nat.le_of_ble_eq_true rfl) dX4_ploughmanAt_5 ⟨by decide, by decide⟩) hc hw [] [0, 1] rfl rfl (by decide) (by decide) (fun r w H locs hq hw => ?_)
  obtain ⟨rfl, rfl⟩ := hq
  have hw : Wd D A s H locs [(g0, .inr (4, [.ref e0, .ref s0, .ref u0, .ref k0, .ref g1, .int (nI no)])), (g1, .inl (cI, 24, .inl (nF o)))] := hw
  refine wz_if_eq (tgt := 20) hx hb dX4_ploughmanAt_8 (by decide) (fun c_1 => ?_) (fun c_1 => ?_)
  · exact (by rw [isB_nat (by omega) (by omega)] at c_1; simp at c_1; omega)
  · skip
    refine lv_aload_n hx hb dX4_ploughmanAt_11 rfl (lv_at hl 0 rfl) ?_
    refine w_get (C := RX4) (T := TX4) (N := 6) (ci := 4) hx hb hts in_4 hown hc hw 0 4 rfl rfl (by decide) lk_3 rfl dX4_ploughmanAt_12 ?_
    refine lv_iload_n hx hb dX4_ploughmanAt_15 rfl (lv_at hl 1 rfl) ?_
    refine w_iald hx hb hc hw 1 rfl rfl (i := k) (by omega) (by decide) dX4_ploughmanAt_16 ?_
    refine wn_top (y := nI (o k)) rfl ?_
    refine lv_goto (tgt := 21) hx hb dX4_ploughmanAt_17 (by decide) ?_
    subst hQ
    exact r_i hx hb hr rfl hlk hw ⟨rfl, rfl⟩ dX4_ploughmanAt_21
def rm_c_X4_ploughmanAt_no : Room := { frames := 1, cells := 0, slots := 0, locals := 21 }
set_option maxHeartbeats 4000000 in
set_option maxRecDepth 100000 in
theorem c_X4_ploughmanAt_no (l : Launch) (D : va_G) (cI cZ cB cJ : ClassId) (b0 : Nat) (adK adV : Nat → Nat) (g0 g1 : Nat) (o : Nat → Nat) (no : Nat) (e0 : Nat) (s0 : Nat) (u0 : Nat) (k0 : Nat) (k : Int32) (hk : isB k (nI no) = false) : Mi l yX4_ploughmanAt wsX4_ploughmanAt rm_c_X4_ploughmanAt_no D (TYs cI cZ cB cJ) b0 adK adV [.ref g0, .int k] [(g0, .inr (4, [.ref e0, .ref s0, .ref u0, .ref k0, .ref g1, .int (nI no)])), (g1, .inl (cI, 24, .inl (nF o)))] (fun (r : Int32) (w : va_W) => r = (-1) ∧ w = [(g0, .inr (4, [.ref e0, .ref s0, .ref u0, .ref k0, .ref g1, .int (nI no)])), (g1, .inl (cI, 24, .inl (nF o)))]) 0 0 := by
  refine e_M (Qf := fun A => va_Qi (fun (r : Int32) (w : va_W) => r = (-1) ∧ w = [(g0, .inr (4, [.ref e0, .ref s0, .ref u0, .ref k0, .ref g1, .int (nI no)])), (g1, .inl (cI, 24, .inl (nF o)))]) (Bw D A) A) (cc := cX4_ploughmanAt) (maxL := 2) (ret := (some .int)) (by decide) rfl (Nat.le_of_ble_eq_true rfl) ?_
  intro p e s m args below meth c ls A Q H locs hx hb hr hml hts hown hlk hnm hc hw hl hQ
  have hl : lv_has ls 2 [(0, .ref g0), (1, .int k)] := hl
  have in_4 : ∀ w ∈ u_ws RX4 TX4 6, w ∈ wsX4_ploughmanAt := fun _ h => List.mem_cons_of_mem _ (List.mem_append_right _ h)
  have lk_0 := hts (.fieldLink RX4 15 "PloughingMatch$Ranking" "size" "I") (List.mem_of_getElem? (i := 1) rfl)
  have lk_1 := hts (.initialized RX9) (List.mem_of_getElem? (i := 4) rfl)
  have lk_2 := hts (.static yX9_isBelow) (List.mem_of_getElem? (i := 3) rfl)
  refine lv_iload_n hx hb dX4_ploughmanAt_0 rfl (lv_at hl 1 rfl) ?_
  refine lv_aload_n hx hb dX4_ploughmanAt_1 rfl (lv_at hl 0 rfl) ?_
  refine w_get (C := RX4) (T := TX4) (N := 6) (ci := 4) hx hb hts in_4 hown hc hw 0 5 rfl rfl (by decide) lk_0 rfl dX4_ploughmanAt_2 ?_
  refine k_i (wr := [(g0, .inr (4, [.ref e0, .ref s0, .ref u0, .ref k0, .ref g1, .int (nI no)])), (g1, .inl (cI, 24, .inl (nF o)))]) (j_SN ⟨hx, hb, hml, hown, hts⟩ (c_X9_isBelow l D cI cZ cB cJ b0 adK adV k (nI no) H.size) ⟨(va_cnB 2 hts gX4_ploughmanAt_X9_isBelow_n48 rfl rfl rfl (hc.2.2.2.2.1 _ (List.mem_of_getElem? (i := 7) rfl)) lk_1 (by decide +kernel) ⟨by decide, by decide⟩), lk_2, trivial⟩ hc hw [] rfl rfl rfl hl.1 rfl (Nat.le_of_ble_eq_true rfl) dX4_ploughmanAt_5 ⟨by decide, by decide⟩) hc hw [] [0, 1] rfl rfl (by decide) (by decide) (fun r w H locs hq hw => ?_)
  obtain ⟨rfl, rfl⟩ := hq
  have hw : Wd D A s H locs [(g0, .inr (4, [.ref e0, .ref s0, .ref u0, .ref k0, .ref g1, .int (nI no)])), (g1, .inl (cI, 24, .inl (nF o)))] := hw
  refine wz_if_eq (tgt := 20) hx hb dX4_ploughmanAt_8 (by decide) (fun c_1 => ?_) (fun c_1 => ?_)
  · skip
    refine lv_iconst (v := (-1)) hx hb dX4_ploughmanAt_20 (by decide) ?_
    subst hQ
    exact r_i hx hb hr rfl hlk hw ⟨rfl, rfl⟩ dX4_ploughmanAt_21
  · exact (by rw [hk] at c_1; cases c_1)
def rm_c_X4_init : Room := { frames := 1, cells := 1, slots := 24, locals := 12 }
set_option maxHeartbeats 4000000 in
set_option maxRecDepth 100000 in
theorem c_X4_init (l : Launch) (D : va_G) (cI cZ cB cJ : ClassId) (b0 : Nat) (adK adV : Nat → Nat) (g0 e0 s0 u0 k0 : Nat) : Mv l yX4_init wsX4_init rm_c_X4_init D (TYs cI cZ cB cJ) b0 adK adV [.ref g0, .ref e0, .ref s0, .ref u0, .ref k0] [(g0, .inr (4, [.null, .null, .null, .null, .null, .int (nI 0)]))] (fun w : va_W => ∃ (g1 : Nat), w = [(g0, .inr (4, [.ref e0, .ref s0, .ref u0, .ref k0, .ref g1, .int (nI 0)])), (g1, .inl (cI, 24, .inl (nF (fun _ => 0))))]) 1 24 := by
  refine e_M (Qf := fun A => va_Qv (fun w : va_W => ∃ (g1 : Nat), w = [(g0, .inr (4, [.ref e0, .ref s0, .ref u0, .ref k0, .ref g1, .int (nI 0)])), (g1, .inl (cI, 24, .inl (nF (fun _ => 0))))]) (Bw D A) A) (cc := cX4_init) (maxL := 5) (ret := none) (by decide) rfl (Nat.le_of_ble_eq_true rfl) ?_
  intro p e s m args below meth c ls A Q H locs hx hb hr hml hts hown hlk hnm hc hw hl hQ
  have hl : lv_has ls 5 [(0, .ref g0), (1, .ref e0), (2, .ref s0), (3, .ref u0), (4, .ref k0)] := hl
  have in_4 : ∀ w ∈ u_ws RX4 TX4 6, w ∈ wsX4_init := fun _ h => List.mem_cons_of_mem _ (List.mem_append_right _ h)
  have lk_0 := hts (.methodLink RX4 3 objectInit) (List.mem_of_getElem? (i := 1) rfl)
  have lk_1 := hts (.instanceMethod objectInit) (List.mem_of_getElem? (i := 2) rfl)
  have lk_2 := hts (.arrayClass .int) (List.mem_of_getElem? (i := 4) rfl)
  have lk_3 := hts (.fieldLink RX4 9 "PloughingMatch$Ranking" "order" "[I") (List.mem_of_getElem? (i := 5) rfl)
  have lk_4 := hts (.fieldLink RX4 15 "PloughingMatch$Ranking" "size" "I") (List.mem_of_getElem? (i := 6) rfl)
  have lk_5 := hts (.fieldLink RX4 19 "PloughingMatch$Ranking" "entries" "LPloughingMatch$Entries;") (List.mem_of_getElem? (i := 7) rfl)
  have lk_6 := hts (.fieldLink RX4 23 "PloughingMatch$Ranking" "sheet" "LPloughingMatch$Sheet;") (List.mem_of_getElem? (i := 8) rfl)
  have lk_7 := hts (.fieldLink RX4 27 "PloughingMatch$Ranking" "results" "LPloughingMatch$Results;") (List.mem_of_getElem? (i := 9) rfl)
  have lk_8 := hts (.fieldLink RX4 31 "PloughingMatch$Ranking" "keys" "LPloughingMatch$Keys;") (List.mem_of_getElem? (i := 10) rfl)
  refine lv_aload_n hx hb dX4_init_0 rfl (lv_at hl 0 rfl) ?_
  refine W.objInit hx hb hown lk_0 lk_1 (hts _ (List.mem_of_getElem? (i := 3) rfl)) rfl (by rw [hml]; exact hl.1) rfl dX4_init_1 (Nat.le_of_ble_eq_true rfl) (Nat.le_of_ble_eq_true rfl) ?_
  refine W.eq (g2 := F0 m 4 ls []) rfl ?_
  refine lv_aload_n hx hb dX4_init_4 rfl (lv_at hl 0 rfl) ?_
  refine lv_bipush (v := nI 24) hx hb dX4_init_5 (by decide) ?_
  refine va_newa hx hb (atype := .int) lk_2 rfl hc.1 hw.1 hw.2.1 hw.2.2 hc.2.1 (a0 := (24, .inl (fun _ => 0))) (fun cA => rfl) (by decide) (nI_clamp (by decide)) (by decide) (by decide) (by decide) dX4_init_7 (fun g1 cA_1 H hK9 hP hD hS => ?_)
  have cA_1e : cA_1 = cI := Option.some.inj ((hK9.2 4 _ rfl).2.symm.trans (hc.1.2 0 _ rfl).2)
  rw [cA_1e] at hP hD
  have hw : Wd D A s H _ [(g0, .inr (4, [.null, .null, .null, .null, .null, .int (nI 0)])), (g1, .inl (cI, 24, .inl (fun _ => 0)))] := ⟨hP, hD, hS⟩
  refine W.widen (k := 1) (n := 24) (by decide) (by decide) ?_
  refine w_putF (C := RX4) (T := TX4) (N := 6) (ci := 4) (v := .ref g1) (ws1 := [(g0, .inr (4, [.null, .null, .null, .null, .ref g1, .int (nI 0)])), (g1, .inl (cI, 24, .inl (fun _ => 0)))]) hx hb hts in_4 tyX4 tyX4_ok nmX4 hown hc hw 0 4 rfl rfl (by decide) lk_3 rfl hnm rfl rfl rfl (Nat.le_of_ble_eq_true rfl) rfl dX4_init_9 (fun H locs hw => ?_)
  refine lv_aload_n hx hb dX4_init_12 rfl (lv_at hl 0 rfl) ?_
  refine lv_iconst (v := nI 0) hx hb dX4_init_13 (by decide) ?_
  refine w_put (C := RX4) (T := TX4) (N := 6) (ci := 4) (v := .int (nI 0)) (ws1 := [(g0, .inr (4, [.null, .null, .null, .null, .ref g1, .int (nI 0)])), (g1, .inl (cI, 24, .inl (fun _ => 0)))]) hx hb hts in_4 tyX4 tyX4_ok nmX4 hown hc hw 0 5 rfl rfl (by decide) lk_4 rfl rfl rfl (Nat.le_of_ble_eq_true rfl) rfl dX4_init_14 (fun H locs hw => ?_)
  refine lv_aload_n hx hb dX4_init_17 rfl (lv_at hl 0 rfl) ?_
  refine lv_aload_n hx hb dX4_init_18 rfl (lv_at hl 1 rfl) ?_
  refine w_putF (C := RX4) (T := TX4) (N := 6) (ci := 4) (v := .ref e0) (ws1 := [(g0, .inr (4, [.ref e0, .null, .null, .null, .ref g1, .int (nI 0)])), (g1, .inl (cI, 24, .inl (fun _ => 0)))]) hx hb hts in_4 tyX4 tyX4_ok nmX4 hown hc hw 0 0 rfl rfl (by decide) lk_5 rfl hnm rfl rfl rfl (Nat.le_of_ble_eq_true rfl) rfl dX4_init_19 (fun H locs hw => ?_)
  refine lv_aload_n hx hb dX4_init_22 rfl (lv_at hl 0 rfl) ?_
  refine lv_aload_n hx hb dX4_init_23 rfl (lv_at hl 2 rfl) ?_
  refine w_putF (C := RX4) (T := TX4) (N := 6) (ci := 4) (v := .ref s0) (ws1 := [(g0, .inr (4, [.ref e0, .ref s0, .null, .null, .ref g1, .int (nI 0)])), (g1, .inl (cI, 24, .inl (fun _ => 0)))]) hx hb hts in_4 tyX4 tyX4_ok nmX4 hown hc hw 0 1 rfl rfl (by decide) lk_6 rfl hnm rfl rfl rfl (Nat.le_of_ble_eq_true rfl) rfl dX4_init_24 (fun H locs hw => ?_)
  refine lv_aload_n hx hb dX4_init_27 rfl (lv_at hl 0 rfl) ?_
  refine lv_aload_n hx hb dX4_init_28 rfl (lv_at hl 3 rfl) ?_
  refine w_putF (C := RX4) (T := TX4) (N := 6) (ci := 4) (v := .ref u0) (ws1 := [(g0, .inr (4, [.ref e0, .ref s0, .ref u0, .null, .ref g1, .int (nI 0)])), (g1, .inl (cI, 24, .inl (fun _ => 0)))]) hx hb hts in_4 tyX4 tyX4_ok nmX4 hown hc hw 0 2 rfl rfl (by decide) lk_7 rfl hnm rfl rfl rfl (Nat.le_of_ble_eq_true rfl) rfl dX4_init_29 (fun H locs hw => ?_)
  refine lv_aload_n hx hb dX4_init_32 rfl (lv_at hl 0 rfl) ?_
  refine lv_aload hx hb dX4_init_33 (lv_at hl 4 rfl) ?_
  refine w_putF (C := RX4) (T := TX4) (N := 6) (ci := 4) (v := .ref k0) (ws1 := [(g0, .inr (4, [.ref e0, .ref s0, .ref u0, .ref k0, .ref g1, .int (nI 0)])), (g1, .inl (cI, 24, .inl (fun _ => 0)))]) hx hb hts in_4 tyX4 tyX4_ok nmX4 hown hc hw 0 3 rfl rfl (by decide) lk_8 rfl hnm rfl rfl rfl (Nat.le_of_ble_eq_true rfl) rfl dX4_init_35 (fun H locs hw => ?_)
  subst hQ
  exact r_v hx hb hr hlk hw ⟨g1, rfl⟩ dX4_init_38
def rm_c_X4_arrange : Room := { frames := 4, cells := 0, slots := 0, locals := 91 }
set_option maxHeartbeats 4000000 in
set_option maxRecDepth 100000 in
theorem c_X4_arrange (l : Launch) (D : va_G) (cI cZ cB cJ : ClassId) (b0 : Nat) (adK adV : Nat → Nat) (g0 g1 e0 e1 e2 e3 e4 e5 s0 s1 s2 s3 s4 s5 u0 u1 u2 k0 k1 k2 : Nat) (o : Nat → Nat) (no : Nat) (kd : Nat → Int32) (ag : Nat → Int32) (cb : Nat → Nat) (pb : Nat → Nat) (pp : Nat → Nat) (n : Nat) (dr : Bool) (mk : Nat → Int32) (hd : Nat → Int32) (td : Nat → Int32) (su : Nat → Int32) (gr : Nat → Int32) (P : Nat) (sz : Int32) (mi : Nat → Int32) (of_ : Nat → Int32) (al : Int32) (ms : Nat → Nat) (up : Nat → Bool) (nk : Nat) (kind : Int32) (hn : n ≤ 24) (hnk : nk ≤ 6) (hms : ∀ k, k < nk → ms k ≤ 8) (hpb : ∀ x, x < n → pb x < 24) : Mv l yX4_arrange wsX4_arrange rm_c_X4_arrange D (TYs cI cZ cB cJ) b0 adK adV [.ref g0, .int kind] [(g0, .inr (4, [.ref e0, .ref s0, .ref u0, .ref k0, .ref g1, .int (nI no)])), (g1, .inl (cI, 24, .inl (nF o))), (e0, .inr (1, [.ref e1, .ref e2, .ref e3, .ref e4, .ref e5, .int (nI n), .int (zI dr)])), (e1, .inl (cI, 24, .inl kd)), (e2, .inl (cI, 24, .inl ag)), (e3, .inl (cI, 24, .inl (nF cb))), (e4, .inl (cI, 24, .inl (nF pb))), (e5, .inl (cI, 24, .inl (nF pp))), (s0, .inr (7, [.ref s1, .ref s2, .ref s3, .ref s4, .ref s5, .int (nI P), .int sz])), (s1, .inl (cI, 480, .inl mk)), (s2, .inl (cI, 20, .inl hd)), (s3, .inl (cI, 120, .inl td)), (s4, .inl (cI, 24, .inl su)), (s5, .inl (cI, 24, .inl gr)), (u0, .inr (5, [.ref s0, .ref u1, .ref u2, .int al])), (u1, .inl (cI, 24, .inl mi)), (u2, .inl (cI, 24, .inl of_)), (k0, .inr (2, [.ref k1, .ref k2, .int (nI nk)])), (k1, .inl (cI, 6, .inl (nF ms))), (k2, .inl (cZ, 6, .inl (zF up)))] (fun w : va_W => w = [(g0, .inr (4, [.ref e0, .ref s0, .ref u0, .ref k0, .ref g1, .int (nI (arrN kd kind n))])), (g1, .inl (cI, 24, .inl (nF (arrO (btF ag pb su gr td mi of_ al ms up nk) kd kind o n)))), (e0, .inr (1, [.ref e1, .ref e2, .ref e3, .ref e4, .ref e5, .int (nI n), .int (zI dr)])), (e1, .inl (cI, 24, .inl kd)), (e2, .inl (cI, 24, .inl ag)), (e3, .inl (cI, 24, .inl (nF cb))), (e4, .inl (cI, 24, .inl (nF pb))), (e5, .inl (cI, 24, .inl (nF pp))), (s0, .inr (7, [.ref s1, .ref s2, .ref s3, .ref s4, .ref s5, .int (nI P), .int sz])), (s1, .inl (cI, 480, .inl mk)), (s2, .inl (cI, 20, .inl hd)), (s3, .inl (cI, 120, .inl td)), (s4, .inl (cI, 24, .inl su)), (s5, .inl (cI, 24, .inl gr)), (u0, .inr (5, [.ref s0, .ref u1, .ref u2, .int al])), (u1, .inl (cI, 24, .inl mi)), (u2, .inl (cI, 24, .inl of_)), (k0, .inr (2, [.ref k1, .ref k2, .int (nI nk)])), (k1, .inl (cI, 6, .inl (nF ms))), (k2, .inl (cZ, 6, .inl (zF up)))]) 0 0 := by
  refine e_M (Qf := fun A => va_Qv (fun w : va_W => w = [(g0, .inr (4, [.ref e0, .ref s0, .ref u0, .ref k0, .ref g1, .int (nI (arrN kd kind n))])), (g1, .inl (cI, 24, .inl (nF (arrO (btF ag pb su gr td mi of_ al ms up nk) kd kind o n)))), (e0, .inr (1, [.ref e1, .ref e2, .ref e3, .ref e4, .ref e5, .int (nI n), .int (zI dr)])), (e1, .inl (cI, 24, .inl kd)), (e2, .inl (cI, 24, .inl ag)), (e3, .inl (cI, 24, .inl (nF cb))), (e4, .inl (cI, 24, .inl (nF pb))), (e5, .inl (cI, 24, .inl (nF pp))), (s0, .inr (7, [.ref s1, .ref s2, .ref s3, .ref s4, .ref s5, .int (nI P), .int sz])), (s1, .inl (cI, 480, .inl mk)), (s2, .inl (cI, 20, .inl hd)), (s3, .inl (cI, 120, .inl td)), (s4, .inl (cI, 24, .inl su)), (s5, .inl (cI, 24, .inl gr)), (u0, .inr (5, [.ref s0, .ref u1, .ref u2, .int al])), (u1, .inl (cI, 24, .inl mi)), (u2, .inl (cI, 24, .inl of_)), (k0, .inr (2, [.ref k1, .ref k2, .int (nI nk)])), (k1, .inl (cI, 6, .inl (nF ms))), (k2, .inl (cZ, 6, .inl (zF up)))]) (Bw D A) A) (cc := cX4_arrange) (maxL := 4) (ret := none) (by decide) rfl (Nat.le_of_ble_eq_true rfl) ?_
  intro p e s m args below meth c ls A Q H locs hx hb hr hml hts hown hlk hnm hc hw hl hQ
  have hl : lv_has ls 4 [(0, .ref g0), (1, .int kind)] := hl
  have in_4 : ∀ w ∈ u_ws RX4 TX4 6, w ∈ wsX4_arrange := fun _ h => List.mem_cons_of_mem _ (List.mem_append_left _ (List.mem_append_left _ (List.mem_append_left _ (List.mem_append_left _ (List.mem_append_right _ h)))))
  have lk_0 := hts (.fieldLink RX4 15 "PloughingMatch$Ranking" "size" "I") (List.mem_of_getElem? (i := 1) rfl)
  have lk_1 := hts (.fieldLink RX4 19 "PloughingMatch$Ranking" "entries" "LPloughingMatch$Entries;") (List.mem_of_getElem? (i := 2) rfl)
  have lk_2 := hts (.fieldLink RX4 9 "PloughingMatch$Ranking" "order" "[I") (List.mem_of_getElem? (i := 3) rfl)
  refine lv_aload_n hx hb dX4_arrange_0 rfl (lv_at hl 0 rfl) ?_
  refine lv_iconst (v := nI 0) hx hb dX4_arrange_1 (by decide) ?_
  refine w_put (C := RX4) (T := TX4) (N := 6) (ci := 4) (v := .int (nI 0)) (ws1 := [(g0, .inr (4, [.ref e0, .ref s0, .ref u0, .ref k0, .ref g1, .int (nI 0)])), (g1, .inl (cI, 24, .inl (nF o))), (e0, .inr (1, [.ref e1, .ref e2, .ref e3, .ref e4, .ref e5, .int (nI n), .int (zI dr)])), (e1, .inl (cI, 24, .inl kd)), (e2, .inl (cI, 24, .inl ag)), (e3, .inl (cI, 24, .inl (nF cb))), (e4, .inl (cI, 24, .inl (nF pb))), (e5, .inl (cI, 24, .inl (nF pp))), (s0, .inr (7, [.ref s1, .ref s2, .ref s3, .ref s4, .ref s5, .int (nI P), .int sz])), (s1, .inl (cI, 480, .inl mk)), (s2, .inl (cI, 20, .inl hd)), (s3, .inl (cI, 120, .inl td)), (s4, .inl (cI, 24, .inl su)), (s5, .inl (cI, 24, .inl gr)), (u0, .inr (5, [.ref s0, .ref u1, .ref u2, .int al])), (u1, .inl (cI, 24, .inl mi)), (u2, .inl (cI, 24, .inl of_)), (k0, .inr (2, [.ref k1, .ref k2, .int (nI nk)])), (k1, .inl (cI, 6, .inl (nF ms))), (k2, .inl (cZ, 6, .inl (zF up)))]) hx hb hts in_4 tyX4 tyX4_ok nmX4 hown hc hw 0 5 rfl rfl (by decide) lk_0 rfl rfl rfl (Nat.le_of_ble_eq_true rfl) rfl dX4_arrange_2 (fun H locs hw => ?_)
  refine lv_iconst (v := nI 0) hx hb dX4_arrange_5 (by decide) ?_
  refine lv_istore_n (lv' := [(2, .int (nI 0)), (0, .ref g0), (1, .int kind)]) hx hb dX4_arrange_6 rfl hl (by decide) rfl (fun ls hl => ?_)
  have key7 : ∀ (fuel : Nat) (x : Nat) (o1 : Nat → Nat) (n1 : Nat), x ≤ n → o1 = arrO (btF ag pb su gr td mi of_ al ms up nk) kd kind o x → n1 = arrN kd kind x → n1 ≤ x → (∀ k, k < n1 → o1 k < n) → n - x < fuel → ∀ (H : Heap) (locs : List Loc) (ls : Array Slot), Wd D A s H locs [(g0, .inr (4, [.ref e0, .ref s0, .ref u0, .ref k0, .ref g1, .int (nI n1)])), (g1, .inl (cI, 24, .inl (nF o1))), (e0, .inr (1, [.ref e1, .ref e2, .ref e3, .ref e4, .ref e5, .int (nI n), .int (zI dr)])), (e1, .inl (cI, 24, .inl kd)), (e2, .inl (cI, 24, .inl ag)), (e3, .inl (cI, 24, .inl (nF cb))), (e4, .inl (cI, 24, .inl (nF pb))), (e5, .inl (cI, 24, .inl (nF pp))), (s0, .inr (7, [.ref s1, .ref s2, .ref s3, .ref s4, .ref s5, .int (nI P), .int sz])), (s1, .inl (cI, 480, .inl mk)), (s2, .inl (cI, 20, .inl hd)), (s3, .inl (cI, 120, .inl td)), (s4, .inl (cI, 24, .inl su)), (s5, .inl (cI, 24, .inl gr)), (u0, .inr (5, [.ref s0, .ref u1, .ref u2, .int al])), (u1, .inl (cI, 24, .inl mi)), (u2, .inl (cI, 24, .inl of_)), (k0, .inr (2, [.ref k1, .ref k2, .int (nI nk)])), (k1, .inl (cI, 6, .inl (nF ms))), (k2, .inl (cZ, 6, .inl (zF up)))] → lv_has ls 4 [(0, .ref g0), (1, .int kind), (2, .int (nI x))] → W p l e rm_c_X4_arrange s m args below meth c H locs 0 0 Q (F0 m 7 ls []) := by
    intro fuel
    induction fuel with
    | zero => intro x o1 n1 hxn eq1 eq2 hn1 ho hfu; exact absurd hfu (Nat.not_lt_zero _)
    | succ fuel ih =>
      intro x o1 n1 hxn eq1 eq2 hn1 ho hfu H locs ls hw hl
      have ih7 := ih
      refine lv_iload_n hx hb dX4_arrange_7 rfl (lv_at hl 2 rfl) ?_
      refine lv_aload_n hx hb dX4_arrange_8 rfl (lv_at hl 0 rfl) ?_
      refine w_get (C := RX4) (T := TX4) (N := 6) (ci := 4) hx hb hts in_4 hown hc hw 0 0 rfl rfl (by decide) lk_1 rfl dX4_arrange_9 ?_
      refine k_i (wr := [(g0, .inr (4, [.ref e0, .ref s0, .ref u0, .ref k0, .ref g1, .int (nI n1)])), (g1, .inl (cI, 24, .inl (nF o1))), (s0, .inr (7, [.ref s1, .ref s2, .ref s3, .ref s4, .ref s5, .int (nI P), .int sz])), (s1, .inl (cI, 480, .inl mk)), (s2, .inl (cI, 20, .inl hd)), (s3, .inl (cI, 120, .inl td)), (s4, .inl (cI, 24, .inl su)), (s5, .inl (cI, 24, .inl gr)), (u0, .inr (5, [.ref s0, .ref u1, .ref u2, .int al])), (u1, .inl (cI, 24, .inl mi)), (u2, .inl (cI, 24, .inl of_)), (k0, .inr (2, [.ref k1, .ref k2, .int (nI nk)])), (k1, .inl (cI, 6, .inl (nF ms))), (k2, .inl (cZ, 6, .inl (zF up)))]) (j_V ⟨hx, hb, hml, hown, hts⟩ (c_X1_size l D cI cZ cB cJ b0 adK adV e0 e1 e2 e3 e4 e5 kd ag cb pb pp n dr H.size) (cwV 0 hts gX4_arrange_X1_size rfl rfl rfl (by decide +kernel) ⟨by decide, by decide⟩) hc hw [2, 3, 4, 5, 6, 7] rfl rfl 1 2 rfl rfl rfl rfl hl.1 rfl (Nat.le_of_ble_eq_true rfl) dX4_arrange_12 ⟨by decide, by decide⟩) hc hw [2, 3, 4, 5, 6, 7] [0, 1, 8, 9, 10, 11, 12, 13, 14, 15, 16, 17, 18, 19] rfl rfl (by decide) (by decide) (fun r w H locs hq hw => ?_)
      obtain ⟨rfl, rfl⟩ := hq
      have hw : Wd D A s H locs [(g0, .inr (4, [.ref e0, .ref s0, .ref u0, .ref k0, .ref g1, .int (nI n1)])), (g1, .inl (cI, 24, .inl (nF o1))), (e0, .inr (1, [.ref e1, .ref e2, .ref e3, .ref e4, .ref e5, .int (nI n), .int (zI dr)])), (e1, .inl (cI, 24, .inl kd)), (e2, .inl (cI, 24, .inl ag)), (e3, .inl (cI, 24, .inl (nF cb))), (e4, .inl (cI, 24, .inl (nF pb))), (e5, .inl (cI, 24, .inl (nF pp))), (s0, .inr (7, [.ref s1, .ref s2, .ref s3, .ref s4, .ref s5, .int (nI P), .int sz])), (s1, .inl (cI, 480, .inl mk)), (s2, .inl (cI, 20, .inl hd)), (s3, .inl (cI, 120, .inl td)), (s4, .inl (cI, 24, .inl su)), (s5, .inl (cI, 24, .inl gr)), (u0, .inr (5, [.ref s0, .ref u1, .ref u2, .int al])), (u1, .inl (cI, 24, .inl mi)), (u2, .inl (cI, 24, .inl of_)), (k0, .inr (2, [.ref k1, .ref k2, .int (nI nk)])), (k1, .inl (cI, 6, .inl (nF ms))), (k2, .inl (cZ, 6, .inl (zF up)))] := hw.sub [0, 1, 14, 15, 16, 17, 18, 19, 2, 3, 4, 5, 6, 7, 8, 9, 10, 11, 12, 13] (by decide) rfl
      refine wb_icmp_ge (tgt := 101) hx hb (by omega) (by omega) dX4_arrange_15 (by decide) (fun c_1 => ?_) (fun c_1 => ?_)
      · skip
        subst hQ
        exact r_v hx hb hr hlk hw (by rw [eq1, eq2, show x = n by omega]) dX4_arrange_101
      · skip
        refine lv_aload_n hx hb dX4_arrange_18 rfl (lv_at hl 0 rfl) ?_
        refine w_get (C := RX4) (T := TX4) (N := 6) (ci := 4) hx hb hts in_4 hown hc hw 0 0 rfl rfl (by decide) lk_1 rfl dX4_arrange_19 ?_
        refine lv_iload_n hx hb dX4_arrange_22 rfl (lv_at hl 2 rfl) ?_
        refine k_i (wr := [(g0, .inr (4, [.ref e0, .ref s0, .ref u0, .ref k0, .ref g1, .int (nI n1)])), (g1, .inl (cI, 24, .inl (nF o1))), (s0, .inr (7, [.ref s1, .ref s2, .ref s3, .ref s4, .ref s5, .int (nI P), .int sz])), (s1, .inl (cI, 480, .inl mk)), (s2, .inl (cI, 20, .inl hd)), (s3, .inl (cI, 120, .inl td)), (s4, .inl (cI, 24, .inl su)), (s5, .inl (cI, 24, .inl gr)), (u0, .inr (5, [.ref s0, .ref u1, .ref u2, .int al])), (u1, .inl (cI, 24, .inl mi)), (u2, .inl (cI, 24, .inl of_)), (k0, .inr (2, [.ref k1, .ref k2, .int (nI nk)])), (k1, .inl (cI, 6, .inl (nF ms))), (k2, .inl (cZ, 6, .inl (zF up)))]) (j_V ⟨hx, hb, hml, hown, hts⟩ (c_X1_kindOf l D cI cZ cB cJ b0 adK adV e0 e1 e2 e3 e4 e5 kd ag cb pb pp n dr x (by omega) H.size) (cwV 1 hts gX4_arrange_X1_kindOf rfl rfl rfl (by decide +kernel) ⟨by decide, by decide⟩) hc hw [2, 3, 4, 5, 6, 7] rfl rfl 1 2 rfl rfl rfl rfl hl.1 rfl (Nat.le_of_ble_eq_true rfl) dX4_arrange_23 ⟨by decide, by decide⟩) hc hw [2, 3, 4, 5, 6, 7] [0, 1, 8, 9, 10, 11, 12, 13, 14, 15, 16, 17, 18, 19] rfl rfl (by decide) (by decide) (fun r w H locs hq hw => ?_)
        obtain ⟨rfl, rfl⟩ := hq
        have hw : Wd D A s H locs [(g0, .inr (4, [.ref e0, .ref s0, .ref u0, .ref k0, .ref g1, .int (nI n1)])), (g1, .inl (cI, 24, .inl (nF o1))), (e0, .inr (1, [.ref e1, .ref e2, .ref e3, .ref e4, .ref e5, .int (nI n), .int (zI dr)])), (e1, .inl (cI, 24, .inl kd)), (e2, .inl (cI, 24, .inl ag)), (e3, .inl (cI, 24, .inl (nF cb))), (e4, .inl (cI, 24, .inl (nF pb))), (e5, .inl (cI, 24, .inl (nF pp))), (s0, .inr (7, [.ref s1, .ref s2, .ref s3, .ref s4, .ref s5, .int (nI P), .int sz])), (s1, .inl (cI, 480, .inl mk)), (s2, .inl (cI, 20, .inl hd)), (s3, .inl (cI, 120, .inl td)), (s4, .inl (cI, 24, .inl su)), (s5, .inl (cI, 24, .inl gr)), (u0, .inr (5, [.ref s0, .ref u1, .ref u2, .int al])), (u1, .inl (cI, 24, .inl mi)), (u2, .inl (cI, 24, .inl of_)), (k0, .inr (2, [.ref k1, .ref k2, .int (nI nk)])), (k1, .inl (cI, 6, .inl (nF ms))), (k2, .inl (cZ, 6, .inl (zF up)))] := hw.sub [0, 1, 14, 15, 16, 17, 18, 19, 2, 3, 4, 5, 6, 7, 8, 9, 10, 11, 12, 13] (by decide) rfl
        refine lv_iload_n hx hb dX4_arrange_26 rfl (lv_at hl 1 rfl) ?_
        refine lv_icmp_eq (tgt := 33) hx hb dX4_arrange_27 (by decide) (fun c_2 => ?_) (fun c_2 => ?_)
        · skip
          refine lv_aload_n hx hb dX4_arrange_33 rfl (lv_at hl 0 rfl) ?_
          refine w_get (C := RX4) (T := TX4) (N := 6) (ci := 4) hx hb hts in_4 hown hc hw 0 5 rfl rfl (by decide) lk_0 rfl dX4_arrange_34 ?_
          refine lv_istore_n (lv' := [(3, .int (nI n1)), (0, .ref g0), (1, .int kind), (2, .int (nI x))]) hx hb dX4_arrange_37 rfl hl (by decide) rfl (fun ls hl => ?_)
          have key38 : ∀ (fuel : Nat) (pl : Nat) (o2 : Nat → Nat), pl ≤ n1 → o2 = shf o1 n1 pl → insP (btF ag pb su gr td mi of_ al ms up nk) x o1 n1 = insP (btF ag pb su gr td mi of_ al ms up nk) x o1 pl → pl < fuel → ∀ (H : Heap) (locs : List Loc) (ls : Array Slot), Wd D A s H locs [(g0, .inr (4, [.ref e0, .ref s0, .ref u0, .ref k0, .ref g1, .int (nI n1)])), (g1, .inl (cI, 24, .inl (nF o2))), (e0, .inr (1, [.ref e1, .ref e2, .ref e3, .ref e4, .ref e5, .int (nI n), .int (zI dr)])), (e1, .inl (cI, 24, .inl kd)), (e2, .inl (cI, 24, .inl ag)), (e3, .inl (cI, 24, .inl (nF cb))), (e4, .inl (cI, 24, .inl (nF pb))), (e5, .inl (cI, 24, .inl (nF pp))), (s0, .inr (7, [.ref s1, .ref s2, .ref s3, .ref s4, .ref s5, .int (nI P), .int sz])), (s1, .inl (cI, 480, .inl mk)), (s2, .inl (cI, 20, .inl hd)), (s3, .inl (cI, 120, .inl td)), (s4, .inl (cI, 24, .inl su)), (s5, .inl (cI, 24, .inl gr)), (u0, .inr (5, [.ref s0, .ref u1, .ref u2, .int al])), (u1, .inl (cI, 24, .inl mi)), (u2, .inl (cI, 24, .inl of_)), (k0, .inr (2, [.ref k1, .ref k2, .int (nI nk)])), (k1, .inl (cI, 6, .inl (nF ms))), (k2, .inl (cZ, 6, .inl (zF up)))] → lv_has ls 4 [(0, .ref g0), (1, .int kind), (2, .int (nI x)), (3, .int (nI pl))] → W p l e rm_c_X4_arrange s m args below meth c H locs 0 0 Q (F0 m 38 ls []) := by
            intro fuel
            induction fuel with
            | zero => intro pl o2 hpl eq3 eq4 hfu; exact absurd hfu (Nat.not_lt_zero _)
            | succ fuel ih =>
              intro pl o2 hpl eq3 eq4 hfu H locs ls hw hl
              have ih38 := ih
              refine lv_iload_n hx hb dX4_arrange_38 rfl (lv_at hl 3 rfl) ?_
              refine wb_if_le (tgt := 78) hx hb (by omega) dX4_arrange_39 (by decide) (fun c_3 => ?_) (fun c_3 => ?_)
              · skip
                have eq9 : va_up o2 pl x = insA o1 n1 (insP (btF ag pb su gr td mi of_ al ms up nk) x o1 n1) x := (by rw [eq3, eq4, insP_at (by first | exact Or.inl (by omega) | exact Or.inr (by rw [← eq6]; assumption))]; rfl)
                have eq8 : ∀ k, k < n1 + 1 → va_up o2 pl x k < n := (by rw [eq9]; exact insA_lt (insP_le _ _ _ _) ho (by omega))
                refine lv_aload_n hx hb dX4_arrange_78 rfl (lv_at hl 0 rfl) ?_
                refine w_get (C := RX4) (T := TX4) (N := 6) (ci := 4) hx hb hts in_4 hown hc hw 0 4 rfl rfl (by decide) lk_2 rfl dX4_arrange_79 ?_
                refine lv_iload_n hx hb dX4_arrange_82 rfl (lv_at hl 3 rfl) ?_
                refine lv_iload_n hx hb dX4_arrange_83 rfl (lv_at hl 2 rfl) ?_
                refine w_iast (ws1 := [(g0, .inr (4, [.ref e0, .ref s0, .ref u0, .ref k0, .ref g1, .int (nI n1)])), (g1, .inl (cI, 24, .inl (nF (va_up o2 pl x)))), (e0, .inr (1, [.ref e1, .ref e2, .ref e3, .ref e4, .ref e5, .int (nI n), .int (zI dr)])), (e1, .inl (cI, 24, .inl kd)), (e2, .inl (cI, 24, .inl ag)), (e3, .inl (cI, 24, .inl (nF cb))), (e4, .inl (cI, 24, .inl (nF pb))), (e5, .inl (cI, 24, .inl (nF pp))), (s0, .inr (7, [.ref s1, .ref s2, .ref s3, .ref s4, .ref s5, .int (nI P), .int sz])), (s1, .inl (cI, 480, .inl mk)), (s2, .inl (cI, 20, .inl hd)), (s3, .inl (cI, 120, .inl td)), (s4, .inl (cI, 24, .inl su)), (s5, .inl (cI, 24, .inl gr)), (u0, .inr (5, [.ref s0, .ref u1, .ref u2, .int al])), (u1, .inl (cI, 24, .inl mi)), (u2, .inl (cI, 24, .inl of_)), (k0, .inr (2, [.ref k1, .ref k2, .int (nI nk)])), (k1, .inl (cI, 6, .inl (nF ms))), (k2, .inl (cZ, 6, .inl (zF up)))]) hx hb hc hw 1 rfl rfl (i := pl) (by omega) (by decide) (by rw [nF_upd]; rfl) dX4_arrange_84 (fun H locs hw => ?_)
                refine lv_aload_n hx hb dX4_arrange_85 rfl (lv_at hl 0 rfl) ?_
                refine lv_dup hx hb dX4_arrange_86 rfl ?_
                refine w_get (C := RX4) (T := TX4) (N := 6) (ci := 4) hx hb hts in_4 hown hc hw 0 5 rfl rfl (by decide) lk_0 rfl dX4_arrange_87 ?_
                refine lv_iconst (v := nI 1) hx hb dX4_arrange_90 (by decide) ?_
                refine wn_iadd hx hb dX4_arrange_91 ?_
                refine w_put (C := RX4) (T := TX4) (N := 6) (ci := 4) (v := .int (nI (n1 + 1))) (ws1 := [(g0, .inr (4, [.ref e0, .ref s0, .ref u0, .ref k0, .ref g1, .int (nI (n1 + 1))])), (g1, .inl (cI, 24, .inl (nF (va_up o2 pl x)))), (e0, .inr (1, [.ref e1, .ref e2, .ref e3, .ref e4, .ref e5, .int (nI n), .int (zI dr)])), (e1, .inl (cI, 24, .inl kd)), (e2, .inl (cI, 24, .inl ag)), (e3, .inl (cI, 24, .inl (nF cb))), (e4, .inl (cI, 24, .inl (nF pb))), (e5, .inl (cI, 24, .inl (nF pp))), (s0, .inr (7, [.ref s1, .ref s2, .ref s3, .ref s4, .ref s5, .int (nI P), .int sz])), (s1, .inl (cI, 480, .inl mk)), (s2, .inl (cI, 20, .inl hd)), (s3, .inl (cI, 120, .inl td)), (s4, .inl (cI, 24, .inl su)), (s5, .inl (cI, 24, .inl gr)), (u0, .inr (5, [.ref s0, .ref u1, .ref u2, .int al])), (u1, .inl (cI, 24, .inl mi)), (u2, .inl (cI, 24, .inl of_)), (k0, .inr (2, [.ref k1, .ref k2, .int (nI nk)])), (k1, .inl (cI, 6, .inl (nF ms))), (k2, .inl (cZ, 6, .inl (zF up)))]) hx hb hts in_4 tyX4 tyX4_ok nmX4 hown hc hw 0 5 rfl rfl (by decide) lk_0 rfl rfl rfl (Nat.le_of_ble_eq_true rfl) rfl dX4_arrange_92 (fun H locs hw => ?_)
                refine wn_iinc (a := x) (d := 1) (lv' := [(2, .int (nI (x + 1))), (0, .ref g0), (1, .int kind), (3, .int (nI pl))]) hx hb dX4_arrange_95 hl (k := 2) rfl (by decide) rfl (fun ls hl => ?_)
                refine lv_goto (tgt := 7) hx hb dX4_arrange_98 (by decide) ?_
                exact ih7 (x + 1) (va_up o2 pl x) (n1 + 1) (by omega) (by first | (rw [eq9, eq1, eq2]; simp only [arrO]; rw [if_pos (by assumption)]) | (simp only [arrO]; rw [if_neg (by assumption)]; exact eq1)) (by first | (simp only [arrN]; rw [if_pos (by assumption), eq2]) | (simp only [arrN]; rw [if_neg (by assumption), eq2])) (by omega) (by first | exact ho | exact eq8) (by omega) _ _ _ hw (lv_sub hl [1, 2, 0] rfl)
              · skip
                refine lv_aload_n hx hb dX4_arrange_42 rfl (lv_at hl 0 rfl) ?_
                refine lv_iload_n hx hb dX4_arrange_43 rfl (lv_at hl 2 rfl) ?_
                refine lv_aload_n hx hb dX4_arrange_44 rfl (lv_at hl 0 rfl) ?_
                refine w_get (C := RX4) (T := TX4) (N := 6) (ci := 4) hx hb hts in_4 hown hc hw 0 4 rfl rfl (by decide) lk_2 rfl dX4_arrange_45 ?_
                refine lv_iload_n hx hb dX4_arrange_48 rfl (lv_at hl 3 rfl) ?_
                refine lv_iconst (v := nI 1) hx hb dX4_arrange_49 (by decide) ?_
                refine wn_isub hx hb (by omega) dX4_arrange_50 ?_
                refine w_iald hx hb hc hw 1 rfl rfl (i := pl - 1) (by omega) (by decide) dX4_arrange_51 ?_
                refine wn_top (y := nI (o2 (pl - 1))) rfl ?_
                have eq6 : o2 (pl - 1) = o1 (pl - 1) := (by rw [eq3]; exact shf_lo o1 (by omega))
                have hoq : o2 (pl - 1) < n := (by rw [eq6]; exact ho _ (by omega))
                refine k_i (wr := []) (j_V ⟨hx, hb, hml, hown, hts⟩ (c_X4_beats l D cI cZ cB cJ b0 adK adV g0 g1 e0 e1 e2 e3 e4 e5 s0 s1 s2 s3 s4 s5 u0 u1 u2 k0 k1 k2 o2 n1 kd ag cb pb pp n dr mk hd td su gr P sz mi of_ al ms up nk x (o2 (pl - 1)) (by omega) hms (by omega) (hpb x (by omega)) (by omega) (hpb _ hoq) H.size) (cwV 2 hts gX4_arrange_X4_beats rfl rfl rfl (by decide +kernel) ⟨by decide, by decide⟩) hc hw [0, 1, 2, 3, 4, 5, 6, 7, 8, 9, 10, 11, 12, 13, 14, 15, 16, 17, 18, 19] rfl rfl 4 0 rfl rfl rfl rfl hl.1 rfl (Nat.le_of_ble_eq_true rfl) dX4_arrange_52 ⟨by decide, by decide⟩) hc hw [0, 1, 2, 3, 4, 5, 6, 7, 8, 9, 10, 11, 12, 13, 14, 15, 16, 17, 18, 19] [] rfl rfl (by decide) (by decide) (fun r w H locs hq hw => ?_)
                obtain ⟨rfl, rfl⟩ := hq
                have hw : Wd D A s H locs [(g0, .inr (4, [.ref e0, .ref s0, .ref u0, .ref k0, .ref g1, .int (nI n1)])), (g1, .inl (cI, 24, .inl (nF o2))), (e0, .inr (1, [.ref e1, .ref e2, .ref e3, .ref e4, .ref e5, .int (nI n), .int (zI dr)])), (e1, .inl (cI, 24, .inl kd)), (e2, .inl (cI, 24, .inl ag)), (e3, .inl (cI, 24, .inl (nF cb))), (e4, .inl (cI, 24, .inl (nF pb))), (e5, .inl (cI, 24, .inl (nF pp))), (s0, .inr (7, [.ref s1, .ref s2, .ref s3, .ref s4, .ref s5, .int (nI P), .int sz])), (s1, .inl (cI, 480, .inl mk)), (s2, .inl (cI, 20, .inl hd)), (s3, .inl (cI, 120, .inl td)), (s4, .inl (cI, 24, .inl su)), (s5, .inl (cI, 24, .inl gr)), (u0, .inr (5, [.ref s0, .ref u1, .ref u2, .int al])), (u1, .inl (cI, 24, .inl mi)), (u2, .inl (cI, 24, .inl of_)), (k0, .inr (2, [.ref k1, .ref k2, .int (nI nk)])), (k1, .inl (cI, 6, .inl (nF ms))), (k2, .inl (cZ, 6, .inl (zF up)))] := hw
                refine wz_if_eq (tgt := 78) hx hb dX4_arrange_55 (by decide) (fun c_4 => ?_) (fun c_4 => ?_)
                · skip
                  have eq9 : va_up o2 pl x = insA o1 n1 (insP (btF ag pb su gr td mi of_ al ms up nk) x o1 n1) x := (by rw [eq3, eq4, insP_at (by first | exact Or.inl (by omega) | exact Or.inr (by rw [← eq6]; assumption))]; rfl)
                  have eq8 : ∀ k, k < n1 + 1 → va_up o2 pl x k < n := (by rw [eq9]; exact insA_lt (insP_le _ _ _ _) ho (by omega))
                  refine lv_aload_n hx hb dX4_arrange_78 rfl (lv_at hl 0 rfl) ?_
                  refine w_get (C := RX4) (T := TX4) (N := 6) (ci := 4) hx hb hts in_4 hown hc hw 0 4 rfl rfl (by decide) lk_2 rfl dX4_arrange_79 ?_
                  refine lv_iload_n hx hb dX4_arrange_82 rfl (lv_at hl 3 rfl) ?_
                  refine lv_iload_n hx hb dX4_arrange_83 rfl (lv_at hl 2 rfl) ?_
                  refine w_iast (ws1 := [(g0, .inr (4, [.ref e0, .ref s0, .ref u0, .ref k0, .ref g1, .int (nI n1)])), (g1, .inl (cI, 24, .inl (nF (va_up o2 pl x)))), (e0, .inr (1, [.ref e1, .ref e2, .ref e3, .ref e4, .ref e5, .int (nI n), .int (zI dr)])), (e1, .inl (cI, 24, .inl kd)), (e2, .inl (cI, 24, .inl ag)), (e3, .inl (cI, 24, .inl (nF cb))), (e4, .inl (cI, 24, .inl (nF pb))), (e5, .inl (cI, 24, .inl (nF pp))), (s0, .inr (7, [.ref s1, .ref s2, .ref s3, .ref s4, .ref s5, .int (nI P), .int sz])), (s1, .inl (cI, 480, .inl mk)), (s2, .inl (cI, 20, .inl hd)), (s3, .inl (cI, 120, .inl td)), (s4, .inl (cI, 24, .inl su)), (s5, .inl (cI, 24, .inl gr)), (u0, .inr (5, [.ref s0, .ref u1, .ref u2, .int al])), (u1, .inl (cI, 24, .inl mi)), (u2, .inl (cI, 24, .inl of_)), (k0, .inr (2, [.ref k1, .ref k2, .int (nI nk)])), (k1, .inl (cI, 6, .inl (nF ms))), (k2, .inl (cZ, 6, .inl (zF up)))]) hx hb hc hw 1 rfl rfl (i := pl) (by omega) (by decide) (by rw [nF_upd]; rfl) dX4_arrange_84 (fun H locs hw => ?_)
                  refine lv_aload_n hx hb dX4_arrange_85 rfl (lv_at hl 0 rfl) ?_
                  refine lv_dup hx hb dX4_arrange_86 rfl ?_
                  refine w_get (C := RX4) (T := TX4) (N := 6) (ci := 4) hx hb hts in_4 hown hc hw 0 5 rfl rfl (by decide) lk_0 rfl dX4_arrange_87 ?_
                  refine lv_iconst (v := nI 1) hx hb dX4_arrange_90 (by decide) ?_
                  refine wn_iadd hx hb dX4_arrange_91 ?_
                  refine w_put (C := RX4) (T := TX4) (N := 6) (ci := 4) (v := .int (nI (n1 + 1))) (ws1 := [(g0, .inr (4, [.ref e0, .ref s0, .ref u0, .ref k0, .ref g1, .int (nI (n1 + 1))])), (g1, .inl (cI, 24, .inl (nF (va_up o2 pl x)))), (e0, .inr (1, [.ref e1, .ref e2, .ref e3, .ref e4, .ref e5, .int (nI n), .int (zI dr)])), (e1, .inl (cI, 24, .inl kd)), (e2, .inl (cI, 24, .inl ag)), (e3, .inl (cI, 24, .inl (nF cb))), (e4, .inl (cI, 24, .inl (nF pb))), (e5, .inl (cI, 24, .inl (nF pp))), (s0, .inr (7, [.ref s1, .ref s2, .ref s3, .ref s4, .ref s5, .int (nI P), .int sz])), (s1, .inl (cI, 480, .inl mk)), (s2, .inl (cI, 20, .inl hd)), (s3, .inl (cI, 120, .inl td)), (s4, .inl (cI, 24, .inl su)), (s5, .inl (cI, 24, .inl gr)), (u0, .inr (5, [.ref s0, .ref u1, .ref u2, .int al])), (u1, .inl (cI, 24, .inl mi)), (u2, .inl (cI, 24, .inl of_)), (k0, .inr (2, [.ref k1, .ref k2, .int (nI nk)])), (k1, .inl (cI, 6, .inl (nF ms))), (k2, .inl (cZ, 6, .inl (zF up)))]) hx hb hts in_4 tyX4 tyX4_ok nmX4 hown hc hw 0 5 rfl rfl (by decide) lk_0 rfl rfl rfl (Nat.le_of_ble_eq_true rfl) rfl dX4_arrange_92 (fun H locs hw => ?_)
                  refine wn_iinc (a := x) (d := 1) (lv' := [(2, .int (nI (x + 1))), (0, .ref g0), (1, .int kind), (3, .int (nI pl))]) hx hb dX4_arrange_95 hl (k := 2) rfl (by decide) rfl (fun ls hl => ?_)
                  refine lv_goto (tgt := 7) hx hb dX4_arrange_98 (by decide) ?_
                  exact ih7 (x + 1) (va_up o2 pl x) (n1 + 1) (by omega) (by first | (rw [eq9, eq1, eq2]; simp only [arrO]; rw [if_pos (by assumption)]) | (simp only [arrO]; rw [if_neg (by assumption)]; exact eq1)) (by first | (simp only [arrN]; rw [if_pos (by assumption), eq2]) | (simp only [arrN]; rw [if_neg (by assumption), eq2])) (by omega) (by first | exact ho | exact eq8) (by omega) _ _ _ hw (lv_sub hl [1, 2, 0] rfl)
                · skip
                  have hb9 := c_4
                  refine lv_aload_n hx hb dX4_arrange_58 rfl (lv_at hl 0 rfl) ?_
                  refine w_get (C := RX4) (T := TX4) (N := 6) (ci := 4) hx hb hts in_4 hown hc hw 0 4 rfl rfl (by decide) lk_2 rfl dX4_arrange_59 ?_
                  refine lv_iload_n hx hb dX4_arrange_62 rfl (lv_at hl 3 rfl) ?_
                  refine lv_aload_n hx hb dX4_arrange_63 rfl (lv_at hl 0 rfl) ?_
                  refine w_get (C := RX4) (T := TX4) (N := 6) (ci := 4) hx hb hts in_4 hown hc hw 0 4 rfl rfl (by decide) lk_2 rfl dX4_arrange_64 ?_
                  refine lv_iload_n hx hb dX4_arrange_67 rfl (lv_at hl 3 rfl) ?_
                  refine lv_iconst (v := nI 1) hx hb dX4_arrange_68 (by decide) ?_
                  refine wn_isub hx hb (by omega) dX4_arrange_69 ?_
                  refine w_iald hx hb hc hw 1 rfl rfl (i := pl - 1) (by omega) (by decide) dX4_arrange_70 ?_
                  refine wn_top (y := nI (o2 (pl - 1))) rfl ?_
                  refine w_iast (ws1 := [(g0, .inr (4, [.ref e0, .ref s0, .ref u0, .ref k0, .ref g1, .int (nI n1)])), (g1, .inl (cI, 24, .inl (nF (va_up o2 pl (o2 (pl - 1)))))), (e0, .inr (1, [.ref e1, .ref e2, .ref e3, .ref e4, .ref e5, .int (nI n), .int (zI dr)])), (e1, .inl (cI, 24, .inl kd)), (e2, .inl (cI, 24, .inl ag)), (e3, .inl (cI, 24, .inl (nF cb))), (e4, .inl (cI, 24, .inl (nF pb))), (e5, .inl (cI, 24, .inl (nF pp))), (s0, .inr (7, [.ref s1, .ref s2, .ref s3, .ref s4, .ref s5, .int (nI P), .int sz])), (s1, .inl (cI, 480, .inl mk)), (s2, .inl (cI, 20, .inl hd)), (s3, .inl (cI, 120, .inl td)), (s4, .inl (cI, 24, .inl su)), (s5, .inl (cI, 24, .inl gr)), (u0, .inr (5, [.ref s0, .ref u1, .ref u2, .int al])), (u1, .inl (cI, 24, .inl mi)), (u2, .inl (cI, 24, .inl of_)), (k0, .inr (2, [.ref k1, .ref k2, .int (nI nk)])), (k1, .inl (cI, 6, .inl (nF ms))), (k2, .inl (cZ, 6, .inl (zF up)))]) hx hb hc hw 1 rfl rfl (i := pl) (by omega) (by decide) (by rw [nF_upd]; rfl) dX4_arrange_71 (fun H locs hw => ?_)
                  refine lv_iinc (v := nI (pl - 1)) (lv' := [(3, .int (nI (pl - 1))), (0, .ref g0), (1, .int kind), (2, .int (nI x))]) hx hb dX4_arrange_72 hl (k := 3) rfl (sb_m1 (by omega)) (by decide) rfl (fun ls hl => ?_)
                  refine lv_goto (tgt := 38) hx hb dX4_arrange_75 (by decide) ?_
                  exact ih38 (pl - 1) (va_up o2 pl (o2 (pl - 1))) (by omega) (by rw [eq3, shf_lo o1 (show pl - 1 < pl by omega)]; exact shf_step o1 (by omega) hpl) (by rw [eq4, insP_go (by omega) (by rw [eq6] at hb9; exact hb9)]) (by omega) _ _ _ hw (lv_sub hl [1, 2, 3, 0] rfl)
          exact key38 (n1 + 1) n1 o1 (by omega) (shf_self _ _).symm rfl (Nat.lt_succ_self _) _ _ _ hw (lv_sub hl [1, 2, 3, 0] rfl)
        · skip
          refine lv_goto (tgt := 95) hx hb dX4_arrange_30 (by decide) ?_
          refine wn_iinc (a := x) (d := 1) (lv' := [(2, .int (nI (x + 1))), (0, .ref g0), (1, .int kind)]) hx hb dX4_arrange_95 hl (k := 2) rfl (by decide) rfl (fun ls hl => ?_)
          refine lv_goto (tgt := 7) hx hb dX4_arrange_98 (by decide) ?_
          exact ih7 (x + 1) o1 n1 (by omega) (by first | (rw [eq9, eq1, eq2]; simp only [arrO]; rw [if_pos (by assumption)]) | (simp only [arrO]; rw [if_neg (by assumption)]; exact eq1)) (by first | (simp only [arrN]; rw [if_pos (by assumption), eq2]) | (simp only [arrN]; rw [if_neg (by assumption), eq2])) (by omega) (by first | exact ho | exact eq8) (by omega) _ _ _ hw (lv_sub hl [1, 2, 0] rfl)
  exact key7 (n - 0 + 1) 0 o 0 (by omega) rfl rfl (by omega) (fun k h => absurd h (Nat.not_lt_zero k)) (Nat.lt_succ_self _) _ _ _ hw (lv_sub hl [1, 2, 0] rfl)
