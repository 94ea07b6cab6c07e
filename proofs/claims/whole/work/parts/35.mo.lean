def tdC (mk : Nat → Int32) (P : Nat) : Nat → Int32 := fun k => toldC mk P (k / 5) (k % 5)
theorem tdC_at {mk : Nat → Int32} {P q t : Nat} (ht : t < 5) : tdC mk P (q * 5 + t) = toldC mk P q t := by
  unfold tdC; rw [show (q * 5 + t) / 5 = q by omega, show (q * 5 + t) % 5 = t by omega]
/-- a PLOUGHMAN's value by a KEY, out of the MARKS -/
def vlC (mk : Nat → Int32) (P : Nat) (ag : Nat → Int32) (pb : Nat → Nat) (mi of_ : Nat → Int32) (al : Int32) (x z : Nat) : Int32 := vl ag pb (sumC mk P) (gndC mk P) (tdC mk P) mi of_ al x z
/-- by the KEYS, then by number -/
def aha (x y : Nat → Int32) (up : Nat → Bool) (a b : Nat) : Nat → Nat → Bool
  | 0, _ => decide (a < b)
  | f + 1, k => if x k = y k then aha x y up a b f (k + 1) else (decide (x k < y k) == up k)
theorem aha_s {x y : Nat → Int32} {up : Nat → Bool} {n k a b : Nat} (h : k < n) : aha x y up a b (n - k) k = if x k = y k then aha x y up a b (n - (k + 1)) (k + 1) else (decide (x k < y k) == up k) := by
  rw [show n - k = n - (k + 1) + 1 by omega]; rfl
/-- how many of the kind are ahead of m -/
def cnA (ah : Nat → Nat → Bool) (kd : Nat → Int32) (kind : Int32) (x : Nat) : Nat → Nat
  | 0 => 0
  | o + 1 => cnA ah kd kind x o + (if o ≠ x ∧ kd o = kind ∧ ah o x = true then 1 else 0)
theorem cnA_le (ah : Nat → Nat → Bool) (kd : Nat → Int32) (kind : Int32) (x : Nat) : ∀ o, cnA ah kd kind x o ≤ o
  | 0 => Nat.le_refl 0
  | o + 1 => by
    have := cnA_le ah kd kind x o
    simp only [cnA]; split <;> omega
/-- the first that has just so many ahead -/
def rkO (ah : Nat → Nat → Bool) (kd : Nat → Int32) (kind k : Int32) (n : Nat) : Nat → Nat → Option Nat
  | 0, _ => none
  | f + 1, x => if kd x = kind ∧ nI (cnA ah kd kind x n) = k then some x else rkO ah kd kind k n f (x + 1)
theorem rkO_s {ah : Nat → Nat → Bool} {kd : Nat → Int32} {kind k : Int32} {n x : Nat} (h : x < n) : rkO ah kd kind k n (n - x) x = if kd x = kind ∧ nI (cnA ah kd kind x n) = k then some x else rkO ah kd kind k n (n - (x + 1)) (x + 1) := by
  rw [show n - x = n - (x + 1) + 1 by omega]; rfl
theorem rkO_lt {ah : Nat → Nat → Bool} {kd : Nat → Int32} {kind k : Int32} {n : Nat} : ∀ f x y, rkO ah kd kind k n f x = some y → y < x + f
  | 0, x, y, h => by cases h
  | f + 1, x, y, h => by
    simp only [rkO] at h
    split at h
    · cases h; omega
    · have := rkO_lt f (x + 1) y h; omega
theorem prz_eq : ∀ k, 3 ≤ k → k < 6 → nI 5 - nI k + nI 1 = amb_prize k := by
  intro k h1 h2
  rcases (show k = 3 ∨ k = 4 ∨ k = 5 by omega) with rfl | rfl | rfl <;> decide
/-- the prizes of the first kinds -/
def awA (Of : Nat → Nat → Nat) (Nf : Nat → Nat) (cb : Nat → Nat) (pts : Nat → Int32) : Nat → Nat → Int32
  | 0 => pts
  | j + 1 => aw cb (Of j) (awA Of Nf cb pts j) (min 6 (Nf j))
theorem aw_some {cb o : Nat → Nat} {pts : Nat → Int32} {k N : Nat} (h : k < N) : aw cb o pts (min (k + 1) N) = upd (aw cb o pts (min k N)) (cb (o k)) (aw cb o pts (min k N) (cb (o k)) + amb_prize k) := by
  rw [Nat.min_eq_left (by omega), Nat.min_eq_left (by omega)]; rfl
theorem aw_none {cb o : Nat → Nat} {pts : Nat → Int32} {k N : Nat} (h : ¬ k < N) : aw cb o pts (min (k + 1) N) = aw cb o pts (min k N) := by
  rw [Nat.min_eq_right (by omega), Nat.min_eq_right (by omega)]
theorem neg1_lt : ((-1 : Int32)) < 0 := by decide
/-- a club's difference, as the reference counts -/
theorem bk_n_cong {g h : Nat → Int32} {n : Nat} : ∀ c, (∀ k, k < c → g k = h k) → bk_n g n c = bk_n h n c
  | 0, _ => rfl
  | c + 1, e => by simp only [bk_n]; rw [bk_n_cong c (fun k hk => e k (by omega)), e c (by omega)]
theorem bk_n_eq0 {g : Nat → Int32} {n c : Nat} (h : g c = 0) : bk_n g n (c + 1) = bk_n g n c := by simp [bk_n, h]
theorem bk_n_ne0 {g : Nat → Int32} {n c : Nat} (h : ¬ g c = 0) : bk_n g n (c + 1) = bk_n g n c + 1 := by simp [bk_n, h]
theorem bk_f_eq0 {g : Nat → Int32} {n c : Nat} {v f : Nat → Int32} (h : g c = 0) : bk_f g n v f (c + 1) = bk_f g n v f c := by simp [bk_f, h]
theorem bk_f_ne0 {g : Nat → Int32} {n c : Nat} {v f : Nat → Int32} (h : ¬ g c = 0) : bk_f g n v f (c + 1) = upd (bk_f g n v f c) (bk_n g n c) (v c) := by simp [bk_f, h]

theorem i32_asym {a b : Int32} (h : a < b) : ¬ b < a := by rw [Int32.lt_iff_toInt_lt] at *; omega
theorem i32_tot {a b : Int32} (h : ¬ a = b) (h2 : ¬ a < b) : b < a := by
  rw [Int32.lt_iff_toInt_lt] at *
  have : ¬ a.toInt = b.toInt := fun e => h (Int32.toInt_inj.mp e)
  omega
theorem ah_1 {v w : Int32} {d : Bool} (hd : d = true) (h : w < v) : (decide (v < w) == !d) = true := by subst hd; rw [decide_eq_false (i32_asym h)]; rfl
theorem ah_2 {v w : Int32} {d : Bool} (hd : d = true) (hne : ¬ v = w) (h : ¬ w < v) : (decide (v < w) == !d) = false := by subst hd; rw [decide_eq_true (i32_tot (fun e => hne e.symm) h)]; rfl
theorem ah_3 {v w : Int32} {d : Bool} (hd : d = false) (h : v < w) : (decide (v < w) == !d) = true := by subst hd; rw [decide_eq_true h]; rfl
theorem ah_4 {v w : Int32} {d : Bool} (hd : d = false) (h : ¬ v < w) : (decide (v < w) == !d) = false := by subst hd; rw [decide_eq_false h]; rfl
def rm_c_X10_valueOf : Room := { frames := 6, cells := 0, slots := 0, locals := 143 }
set_option maxHeartbeats 4000000 in
set_option maxRecDepth 100000 in
theorem c_X10_valueOf (l : Launch) (D : va_G) (cI cZ cB cJ : ClassId) (b0 : Nat) (adK adV : Nat → Nat) (m0 m1 m2 m3 m4 m5 m6 m7 m8 m9 m10 m11 m12 m13 m14 m15 m16 m17 m18 m19 m20 m21 : Nat) (th : Int32) (n : Nat) (P : Nat) (nn : Nat) (sb : Bool) (al : Int32) (tn : Nat) (zs : Nat) (hp : Nat) (iw : Bool) (nk : Nat) (dy : Nat) (ln : Nat) (kd : Nat → Int32) (ag : Nat → Int32) (cb : Nat → Nat) (nz : Nat → Int32) (pb : Nat → Nat) (mk : Nat → Int32) (mh : Nat → Int32) (mt : Nat → Int32) (mu : Nat → Int32) (mi : Nat → Int32) (of_ : Nat → Int32) (bt : Nat → Nat) (ms : Nat → Nat) (dn_ : Nat → Bool) (ns_ : Nat → Nat) (nd_ : Nat → Bool) (vls : Nat → Int32) (ld : Nat → Int32) (lc : Nat → Int32) (lm : Nat → Int32) (mp : Nat → Int32) (x : Nat) (z : Nat) (hP : P ≤ 24) (hmk : ∀ k, mk k < 0 → mk k = -1) (hs : sb = true → SC mk P mh mt mu) (hmi : ∀ k, 0 ≤ mi k ∧ mi k ≤ nI 600) (hal : 0 ≤ al ∧ al ≤ nI 600) (hx0 : x < 24) (hpx : pb x < P) (hz : z ≤ 8) : Mi l yX10_valueOf wsX10_valueOf rm_c_X10_valueOf D (TYs cI cZ cB cJ) b0 adK adV [.ref m0, .int (nI x), .int (nI z)] [(m0, .inr (10, [.int th, .ref m1, .ref m2, .ref m3, .int (nI n), .int (nI P), .ref m4, .int (nI nn), .ref m5, .ref m6, .ref m7, .ref m8, .ref m9, .int (zI sb), .ref m10, .ref m11, .int al, .ref m12, .int (nI tn), .int (nI zs), .int (nI hp), .int (zI iw), .ref m13, .ref m14, .int (nI nk), .ref m15, .ref m16, .ref m17, .int (nI dy), .int (nI ln), .ref m18, .ref m19, .ref m20, .ref m21])), (m1, .inl (cI, 24, .inl kd)), (m2, .inl (cI, 24, .inl ag)), (m3, .inl (cI, 24, .inl (nF cb))), (m4, .inl (cI, 30, .inl nz)), (m5, .inl (cI, 24, .inl (nF pb))), (m6, .inl (cI, 480, .inl mk)), (m7, .inl (cI, 20, .inl mh)), (m8, .inl (cI, 120, .inl mt)), (m9, .inl (cI, 24, .inl mu)), (m10, .inl (cI, 24, .inl mi)), (m11, .inl (cI, 24, .inl of_)), (m12, .inl (cB, 100, .inl (bF bt))), (m13, .inl (cI, 6, .inl (nF ms))), (m14, .inl (cZ, 6, .inl (zF dn_))), (m15, .inl (cI, 6, .inl (nF ns_))), (m16, .inl (cZ, 6, .inl (zF nd_))), (m17, .inl (cI, 144, .inl vls)), (m18, .inl (cI, 600, .inl ld)), (m19, .inl (cI, 600, .inl lc)), (m20, .inl (cI, 600, .inl lm)), (m21, .inl (cI, 10, .inl mp))] (fun (r : Int32) (w : va_W) => ∃ (mh1 : Nat → Int32) (mt1 : Nat → Int32) (mu1 : Nat → Int32) (sb1 : Bool), (sb1 = true → SC mk P mh1 mt1 mu1) ∧ r = vlC mk P ag pb mi of_ al x z ∧ w = [(m0, .inr (10, [.int th, .ref m1, .ref m2, .ref m3, .int (nI n), .int (nI P), .ref m4, .int (nI nn), .ref m5, .ref m6, .ref m7, .ref m8, .ref m9, .int (zI sb1), .ref m10, .ref m11, .int al, .ref m12, .int (nI tn), .int (nI zs), .int (nI hp), .int (zI iw), .ref m13, .ref m14, .int (nI nk), .ref m15, .ref m16, .ref m17, .int (nI dy), .int (nI ln), .ref m18, .ref m19, .ref m20, .ref m21])), (m1, .inl (cI, 24, .inl kd)), (m2, .inl (cI, 24, .inl ag)), (m3, .inl (cI, 24, .inl (nF cb))), (m4, .inl (cI, 30, .inl nz)), (m5, .inl (cI, 24, .inl (nF pb))), (m6, .inl (cI, 480, .inl mk)), (m7, .inl (cI, 20, .inl mh1)), (m8, .inl (cI, 120, .inl mt1)), (m9, .inl (cI, 24, .inl mu1)), (m10, .inl (cI, 24, .inl mi)), (m11, .inl (cI, 24, .inl of_)), (m12, .inl (cB, 100, .inl (bF bt))), (m13, .inl (cI, 6, .inl (nF ms))), (m14, .inl (cZ, 6, .inl (zF dn_))), (m15, .inl (cI, 6, .inl (nF ns_))), (m16, .inl (cZ, 6, .inl (zF nd_))), (m17, .inl (cI, 144, .inl vls)), (m18, .inl (cI, 600, .inl ld)), (m19, .inl (cI, 600, .inl lc)), (m20, .inl (cI, 600, .inl lm)), (m21, .inl (cI, 10, .inl mp))]) 0 0 := by
  refine e_M (Qf := fun A => va_Qi (fun (r : Int32) (w : va_W) => ∃ (mh1 : Nat → Int32) (mt1 : Nat → Int32) (mu1 : Nat → Int32) (sb1 : Bool), (sb1 = true → SC mk P mh1 mt1 mu1) ∧ r = vlC mk P ag pb mi of_ al x z ∧ w = [(m0, .inr (10, [.int th, .ref m1, .ref m2, .ref m3, .int (nI n), .int (nI P), .ref m4, .int (nI nn), .ref m5, .ref m6, .ref m7, .ref m8, .ref m9, .int (zI sb1), .ref m10, .ref m11, .int al, .ref m12, .int (nI tn), .int (nI zs), .int (nI hp), .int (zI iw), .ref m13, .ref m14, .int (nI nk), .ref m15, .ref m16, .ref m17, .int (nI dy), .int (nI ln), .ref m18, .ref m19, .ref m20, .ref m21])), (m1, .inl (cI, 24, .inl kd)), (m2, .inl (cI, 24, .inl ag)), (m3, .inl (cI, 24, .inl (nF cb))), (m4, .inl (cI, 30, .inl nz)), (m5, .inl (cI, 24, .inl (nF pb))), (m6, .inl (cI, 480, .inl mk)), (m7, .inl (cI, 20, .inl mh1)), (m8, .inl (cI, 120, .inl mt1)), (m9, .inl (cI, 24, .inl mu1)), (m10, .inl (cI, 24, .inl mi)), (m11, .inl (cI, 24, .inl of_)), (m12, .inl (cB, 100, .inl (bF bt))), (m13, .inl (cI, 6, .inl (nF ms))), (m14, .inl (cZ, 6, .inl (zF dn_))), (m15, .inl (cI, 6, .inl (nF ns_))), (m16, .inl (cZ, 6, .inl (zF nd_))), (m17, .inl (cI, 144, .inl vls)), (m18, .inl (cI, 600, .inl ld)), (m19, .inl (cI, 600, .inl lc)), (m20, .inl (cI, 600, .inl lm)), (m21, .inl (cI, 10, .inl mp))]) (Bw D A) A) (cc := cX10_valueOf) (maxL := 4) (ret := (some .int)) (by decide) rfl (Nat.le_of_ble_eq_true rfl) ?_
  intro p e s m args below meth c ls A Q H locs hx hb hr hml hts hown hlk hnm hc hw hl hQ
  have hl : lv_has ls 4 [(0, .ref m0), (1, .int (nI x)), (2, .int (nI z))] := hl
  have in_10 : ∀ w ∈ u_ws RX10 TX10 34, w ∈ wsX10_valueOf := fun _ h => List.mem_cons_of_mem _ (List.mem_append_right _ h)
  have lk_0 := hts (.fieldLink RX10 22 "PloughingMatchModel" "at" "[I") (List.mem_of_getElem? (i := 1) rfl)
  have lk_1 := hts (.fieldLink RX10 13 "PloughingMatchModel" "ages" "[I") (List.mem_of_getElem? (i := 3) rfl)
  have lk_2 := hts (.fieldLink RX10 37 "PloughingMatchModel" "minutes" "[I") (List.mem_of_getElem? (i := 2) rfl)
  refine lv_aload_n hx hb dX10_valueOf_0 rfl (lv_at hl 0 rfl) ?_
  refine w_get (C := RX10) (T := TX10) (N := 34) (ci := 10) hx hb hts in_10 hown hc hw 0 8 rfl rfl (by decide) lk_0 rfl dX10_valueOf_1 ?_
  refine lv_iload_n hx hb dX10_valueOf_4 rfl (lv_at hl 1 rfl) ?_
  refine w_iald hx hb hc hw 5 rfl rfl (i := x) (by omega) (by decide) dX10_valueOf_5 ?_
  refine wn_top (y := nI (pb x)) rfl ?_
  refine lv_istore_n (lv' := [(3, .int (nI (pb x))), (0, .ref m0), (1, .int (nI x)), (2, .int (nI z))]) hx hb dX10_valueOf_6 rfl hl (by decide) rfl (fun ls hl => ?_)
  refine lv_iload_n hx hb dX10_valueOf_7 rfl (lv_at hl 3 rfl) ?_
  refine wb_if_ne (tgt := 19) hx hb (by omega) dX10_valueOf_8 (by decide) (fun c_1 => ?_) (fun c_1 => ?_)
  · skip
    refine lv_iload_n hx hb dX10_valueOf_19 rfl (lv_at hl 3 rfl) ?_
    refine lv_iconst (v := nI 1) hx hb dX10_valueOf_20 (by decide) ?_
    refine wb_icmp_ne (tgt := 32) hx hb (by omega) (by omega) dX10_valueOf_21 (by decide) (fun c_2 => ?_) (fun c_2 => ?_)
    · skip
      refine lv_iload_n hx hb dX10_valueOf_32 rfl (lv_at hl 3 rfl) ?_
      refine lv_iconst (v := nI 2) hx hb dX10_valueOf_33 (by decide) ?_
      refine wb_icmp_ne (tgt := 46) hx hb (by omega) (by omega) dX10_valueOf_34 (by decide) (fun c_3 => ?_) (fun c_3 => ?_)
      · skip
        refine lv_iload_n hx hb dX10_valueOf_46 rfl (lv_at hl 3 rfl) ?_
        refine lv_iconst (v := nI 3) hx hb dX10_valueOf_47 (by decide) ?_
        refine wb_icmp_ne (tgt := 60) hx hb (by omega) (by omega) dX10_valueOf_48 (by decide) (fun c_4 => ?_) (fun c_4 => ?_)
        · skip
          refine lv_aload_n hx hb dX10_valueOf_60 rfl (lv_at hl 1 rfl) ?_
          refine lv_iload_n hx hb dX10_valueOf_61 rfl (lv_at hl 0 rfl) ?_
          refine lv_iload_n hx hb dX10_valueOf_62 rfl (lv_at hl 3 rfl) ?_
          refine lv_iconst (v := nI 4) hx hb dX10_valueOf_63 (by decide) ?_
          refine wn_isub hx hb (by omega) dX10_valueOf_64 ?_
          refine k_i (wr := []) (j_V ⟨hx, hb, hml, hown, hts⟩ (c_X10_toldOf l D cI cZ cB cJ b0 adK adV m0 m1 m2 m3 m4 m5 m6 m7 m8 m9 m10 m11 m12 m13 m14 m15 m16 m17 m18 m19 m20 m21 th n P nn sb al tn zs hp iw nk dy ln kd ag cb nz pb mk mh mt mu mi of_ bt ms dn_ ns_ nd_ vls ld lc lm mp (pb x) (z - 4) (by omega) hmk hs (by omega) (by omega) H.size) (cwV 2 hts gX10_valueOf_X10_toldOf rfl rfl rfl (by decide +kernel) ⟨by decide, by decide⟩) hc hw [0, 1, 2, 3, 4, 5, 6, 7, 8, 9, 10, 11, 12, 13, 14, 15, 16, 17, 18, 19, 20, 21] rfl rfl 10 0 rfl rfl rfl rfl hl.1 rfl (Nat.le_of_ble_eq_true rfl) dX10_valueOf_65 ⟨by decide, by decide⟩) hc hw [0, 1, 2, 3, 4, 5, 6, 7, 8, 9, 10, 11, 12, 13, 14, 15, 16, 17, 18, 19, 20, 21] [] rfl rfl (by decide) (by decide) (fun r w H locs hq hw => ?_)
          obtain ⟨mh1_5, mt1_6, mu1_7, sb1_8, hp_9, rfl, rfl⟩ := hq
          have hw : Wd D A s H locs [(m0, .inr (10, [.int th, .ref m1, .ref m2, .ref m3, .int (nI n), .int (nI P), .ref m4, .int (nI nn), .ref m5, .ref m6, .ref m7, .ref m8, .ref m9, .int (zI sb1_8), .ref m10, .ref m11, .int al, .ref m12, .int (nI tn), .int (nI zs), .int (nI hp), .int (zI iw), .ref m13, .ref m14, .int (nI nk), .ref m15, .ref m16, .ref m17, .int (nI dy), .int (nI ln), .ref m18, .ref m19, .ref m20, .ref m21])), (m1, .inl (cI, 24, .inl kd)), (m2, .inl (cI, 24, .inl ag)), (m3, .inl (cI, 24, .inl (nF cb))), (m4, .inl (cI, 30, .inl nz)), (m5, .inl (cI, 24, .inl (nF pb))), (m6, .inl (cI, 480, .inl mk)), (m7, .inl (cI, 20, .inl mh1_5)), (m8, .inl (cI, 120, .inl mt1_6)), (m9, .inl (cI, 24, .inl mu1_7)), (m10, .inl (cI, 24, .inl mi)), (m11, .inl (cI, 24, .inl of_)), (m12, .inl (cB, 100, .inl (bF bt))), (m13, .inl (cI, 6, .inl (nF ms))), (m14, .inl (cZ, 6, .inl (zF dn_))), (m15, .inl (cI, 6, .inl (nF ns_))), (m16, .inl (cZ, 6, .inl (zF nd_))), (m17, .inl (cI, 144, .inl vls)), (m18, .inl (cI, 600, .inl ld)), (m19, .inl (cI, 600, .inl lc)), (m20, .inl (cI, 600, .inl lm)), (m21, .inl (cI, 10, .inl mp))] := hw
          subst hQ
          exact r_i hx hb hr rfl hlk hw ⟨mh1_5, mt1_6, mu1_7, sb1_8, hp_9, (by unfold vlC vl; first | (rw [if_pos (by assumption)]) | (rw [if_neg (by omega), if_pos (by assumption)]) | (rw [if_neg (by omega), if_neg (by omega), if_pos (by assumption)]) | (rw [if_neg (by omega), if_neg (by omega), if_neg (by omega), if_pos (by assumption)]) | (rw [if_neg (by omega), if_neg (by omega), if_neg (by omega), if_neg (by omega), tdC_at (by omega)])), rfl⟩ dX10_valueOf_68
        · skip
          refine lv_aload_n hx hb dX10_valueOf_51 rfl (lv_at hl 1 rfl) ?_
          refine w_get (C := RX10) (T := TX10) (N := 34) (ci := 10) hx hb hts in_10 hown hc hw 0 2 rfl rfl (by decide) lk_1 rfl dX10_valueOf_52 ?_
          refine lv_iload_n hx hb dX10_valueOf_55 rfl (lv_at hl 2 rfl) ?_
          refine w_iald hx hb hc hw 2 rfl rfl (i := x) (by omega) (by decide) dX10_valueOf_56 ?_
          refine lv_goto (tgt := 68) hx hb dX10_valueOf_57 (by decide) ?_
          subst hQ
          exact r_i hx hb hr rfl hlk hw ⟨mh, mt, mu, sb, hs, (by unfold vlC vl; first | (rw [if_pos (by assumption)]) | (rw [if_neg (by omega), if_pos (by assumption)]) | (rw [if_neg (by omega), if_neg (by omega), if_pos (by assumption)]) | (rw [if_neg (by omega), if_neg (by omega), if_neg (by omega), if_pos (by assumption)]) | (rw [if_neg (by omega), if_neg (by omega), if_neg (by omega), if_neg (by omega), tdC_at (by omega)])), rfl⟩ dX10_valueOf_68
      · skip
        refine lv_aload_n hx hb dX10_valueOf_37 rfl (lv_at hl 1 rfl) ?_
        refine w_get (C := RX10) (T := TX10) (N := 34) (ci := 10) hx hb hts in_10 hown hc hw 0 14 rfl rfl (by decide) lk_2 rfl dX10_valueOf_38 ?_
        refine lv_iload_n hx hb dX10_valueOf_41 rfl (lv_at hl 0 rfl) ?_
        refine w_iald hx hb hc hw 10 rfl rfl (i := pb x) (by omega) (by decide) dX10_valueOf_42 ?_
        refine lv_goto (tgt := 68) hx hb dX10_valueOf_43 (by decide) ?_
        subst hQ
        exact r_i hx hb hr rfl hlk hw ⟨mh, mt, mu, sb, hs, (by unfold vlC vl; first | (rw [if_pos (by assumption)]) | (rw [if_neg (by omega), if_pos (by assumption)]) | (rw [if_neg (by omega), if_neg (by omega), if_pos (by assumption)]) | (rw [if_neg (by omega), if_neg (by omega), if_neg (by omega), if_pos (by assumption)]) | (rw [if_neg (by omega), if_neg (by omega), if_neg (by omega), if_neg (by omega), tdC_at (by omega)])), rfl⟩ dX10_valueOf_68
    · skip
      refine lv_aload_n hx hb dX10_valueOf_24 rfl (lv_at hl 1 rfl) ?_
      refine lv_iload_n hx hb dX10_valueOf_25 rfl (lv_at hl 0 rfl) ?_
      refine k_i (wr := []) (j_V ⟨hx, hb, hml, hown, hts⟩ (c_X10_sumOf l D cI cZ cB cJ b0 adK adV m0 m1 m2 m3 m4 m5 m6 m7 m8 m9 m10 m11 m12 m13 m14 m15 m16 m17 m18 m19 m20 m21 th n P nn sb al tn zs hp iw nk dy ln kd ag cb nz pb mk mh mt mu mi of_ bt ms dn_ ns_ nd_ vls ld lc lm mp (pb x) (by omega) hmk hs (by omega) H.size) (cwV 1 hts gX10_valueOf_X10_sumOf rfl rfl rfl (by decide +kernel) ⟨by decide, by decide⟩) hc hw [0, 1, 2, 3, 4, 5, 6, 7, 8, 9, 10, 11, 12, 13, 14, 15, 16, 17, 18, 19, 20, 21] rfl rfl 10 0 rfl rfl rfl rfl hl.1 rfl (Nat.le_of_ble_eq_true rfl) dX10_valueOf_26 ⟨by decide, by decide⟩) hc hw [0, 1, 2, 3, 4, 5, 6, 7, 8, 9, 10, 11, 12, 13, 14, 15, 16, 17, 18, 19, 20, 21] [] rfl rfl (by decide) (by decide) (fun r w H locs hq hw => ?_)
      obtain ⟨mh1_10, mt1_11, mu1_12, sb1_13, hp_14, rfl, rfl⟩ := hq
      have hw : Wd D A s H locs [(m0, .inr (10, [.int th, .ref m1, .ref m2, .ref m3, .int (nI n), .int (nI P), .ref m4, .int (nI nn), .ref m5, .ref m6, .ref m7, .ref m8, .ref m9, .int (zI sb1_13), .ref m10, .ref m11, .int al, .ref m12, .int (nI tn), .int (nI zs), .int (nI hp), .int (zI iw), .ref m13, .ref m14, .int (nI nk), .ref m15, .ref m16, .ref m17, .int (nI dy), .int (nI ln), .ref m18, .ref m19, .ref m20, .ref m21])), (m1, .inl (cI, 24, .inl kd)), (m2, .inl (cI, 24, .inl ag)), (m3, .inl (cI, 24, .inl (nF cb))), (m4, .inl (cI, 30, .inl nz)), (m5, .inl (cI, 24, .inl (nF pb))), (m6, .inl (cI, 480, .inl mk)), (m7, .inl (cI, 20, .inl mh1_10)), (m8, .inl (cI, 120, .inl mt1_11)), (m9, .inl (cI, 24, .inl mu1_12)), (m10, .inl (cI, 24, .inl mi)), (m11, .inl (cI, 24, .inl of_)), (m12, .inl (cB, 100, .inl (bF bt))), (m13, .inl (cI, 6, .inl (nF ms))), (m14, .inl (cZ, 6, .inl (zF dn_))), (m15, .inl (cI, 6, .inl (nF ns_))), (m16, .inl (cZ, 6, .inl (zF nd_))), (m17, .inl (cI, 144, .inl vls)), (m18, .inl (cI, 600, .inl ld)), (m19, .inl (cI, 600, .inl lc)), (m20, .inl (cI, 600, .inl lm)), (m21, .inl (cI, 10, .inl mp))] := hw
      refine lv_goto (tgt := 68) hx hb dX10_valueOf_29 (by decide) ?_
      subst hQ
      exact r_i hx hb hr rfl hlk hw ⟨mh1_10, mt1_11, mu1_12, sb1_13, hp_14, (by unfold vlC vl; first | (rw [if_pos (by assumption)]) | (rw [if_neg (by omega), if_pos (by assumption)]) | (rw [if_neg (by omega), if_neg (by omega), if_pos (by assumption)]) | (rw [if_neg (by omega), if_neg (by omega), if_neg (by omega), if_pos (by assumption)]) | (rw [if_neg (by omega), if_neg (by omega), if_neg (by omega), if_neg (by omega), tdC_at (by omega)])), rfl⟩ dX10_valueOf_68
  · skip
    refine lv_aload_n hx hb dX10_valueOf_11 rfl (lv_at hl 1 rfl) ?_
    refine lv_iload_n hx hb dX10_valueOf_12 rfl (lv_at hl 0 rfl) ?_
    refine k_i (wr := []) (j_V ⟨hx, hb, hml, hown, hts⟩ (c_X10_finalOf l D cI cZ cB cJ b0 adK adV m0 m1 m2 m3 m4 m5 m6 m7 m8 m9 m10 m11 m12 m13 m14 m15 m16 m17 m18 m19 m20 m21 th n P nn sb al tn zs hp iw nk dy ln kd ag cb nz pb mk mh mt mu mi of_ bt ms dn_ ns_ nd_ vls ld lc lm mp (pb x) (by omega) hmk hs (by omega) hmi hal H.size) (cwV 1 hts gX10_valueOf_X10_finalOf rfl rfl rfl (by decide +kernel) ⟨by decide, by decide⟩) hc hw [0, 1, 2, 3, 4, 5, 6, 7, 8, 9, 10, 11, 12, 13, 14, 15, 16, 17, 18, 19, 20, 21] rfl rfl 10 0 rfl rfl rfl rfl hl.1 rfl (Nat.le_of_ble_eq_true rfl) dX10_valueOf_13 ⟨by decide, by decide⟩) hc hw [0, 1, 2, 3, 4, 5, 6, 7, 8, 9, 10, 11, 12, 13, 14, 15, 16, 17, 18, 19, 20, 21] [] rfl rfl (by decide) (by decide) (fun r w H locs hq hw => ?_)
    obtain ⟨mh1_15, mt1_16, mu1_17, sb1_18, hp_19, rfl, rfl⟩ := hq
    have hw : Wd D A s H locs [(m0, .inr (10, [.int th, .ref m1, .ref m2, .ref m3, .int (nI n), .int (nI P), .ref m4, .int (nI nn), .ref m5, .ref m6, .ref m7, .ref m8, .ref m9, .int (zI sb1_18), .ref m10, .ref m11, .int al, .ref m12, .int (nI tn), .int (nI zs), .int (nI hp), .int (zI iw), .ref m13, .ref m14, .int (nI nk), .ref m15, .ref m16, .ref m17, .int (nI dy), .int (nI ln), .ref m18, .ref m19, .ref m20, .ref m21])), (m1, .inl (cI, 24, .inl kd)), (m2, .inl (cI, 24, .inl ag)), (m3, .inl (cI, 24, .inl (nF cb))), (m4, .inl (cI, 30, .inl nz)), (m5, .inl (cI, 24, .inl (nF pb))), (m6, .inl (cI, 480, .inl mk)), (m7, .inl (cI, 20, .inl mh1_15)), (m8, .inl (cI, 120, .inl mt1_16)), (m9, .inl (cI, 24, .inl mu1_17)), (m10, .inl (cI, 24, .inl mi)), (m11, .inl (cI, 24, .inl of_)), (m12, .inl (cB, 100, .inl (bF bt))), (m13, .inl (cI, 6, .inl (nF ms))), (m14, .inl (cZ, 6, .inl (zF dn_))), (m15, .inl (cI, 6, .inl (nF ns_))), (m16, .inl (cZ, 6, .inl (zF nd_))), (m17, .inl (cI, 144, .inl vls)), (m18, .inl (cI, 600, .inl ld)), (m19, .inl (cI, 600, .inl lc)), (m20, .inl (cI, 600, .inl lm)), (m21, .inl (cI, 10, .inl mp))] := hw
    refine lv_goto (tgt := 68) hx hb dX10_valueOf_16 (by decide) ?_
    subst hQ
    exact r_i hx hb hr rfl hlk hw ⟨mh1_15, mt1_16, mu1_17, sb1_18, hp_19, (by unfold vlC vl; first | (rw [if_pos (by assumption)]) | (rw [if_neg (by omega), if_pos (by assumption)]) | (rw [if_neg (by omega), if_neg (by omega), if_pos (by assumption)]) | (rw [if_neg (by omega), if_neg (by omega), if_neg (by omega), if_pos (by assumption)]) | (rw [if_neg (by omega), if_neg (by omega), if_neg (by omega), if_neg (by omega), tdC_at (by omega)])), rfl⟩ dX10_valueOf_68
def rm_c_X10_values : Room := { frames := 7, cells := 0, slots := 0, locals := 166 }
set_option maxHeartbeats 4000000 in
set_option maxRecDepth 100000 in
theorem c_X10_values (l : Launch) (D : va_G) (cI cZ cB cJ : ClassId) (b0 : Nat) (adK adV : Nat → Nat) (m0 m1 m2 m3 m4 m5 m6 m7 m8 m9 m10 m11 m12 m13 m14 m15 m16 m17 m18 m19 m20 m21 : Nat) (th : Int32) (n : Nat) (P : Nat) (nn : Nat) (sb : Bool) (al : Int32) (tn : Nat) (zs : Nat) (hp : Nat) (iw : Bool) (nk : Nat) (dy : Nat) (ln : Nat) (kd : Nat → Int32) (ag : Nat → Int32) (cb : Nat → Nat) (nz : Nat → Int32) (pb : Nat → Nat) (mk : Nat → Int32) (mh : Nat → Int32) (mt : Nat → Int32) (mu : Nat → Int32) (mi : Nat → Int32) (of_ : Nat → Int32) (bt : Nat → Nat) (ms : Nat → Nat) (dn_ : Nat → Bool) (ns_ : Nat → Nat) (nd_ : Nat → Bool) (vls : Nat → Int32) (ld : Nat → Int32) (lc : Nat → Int32) (lm : Nat → Int32) (mp : Nat → Int32) (hP : P ≤ 24) (hmk : ∀ k, mk k < 0 → mk k = -1) (hs : sb = true → SC mk P mh mt mu) (hmi : ∀ k, 0 ≤ mi k ∧ mi k ≤ nI 600) (hal : 0 ≤ al ∧ al ≤ nI 600) (hn24 : n ≤ 24) (hnk : nk ≤ 6) (hms : ∀ k, k < nk → ms k ≤ 8) (hpP : ∀ x, x < n → pb x < P) : Mv l yX10_values wsX10_values rm_c_X10_values D (TYs cI cZ cB cJ) b0 adK adV [.ref m0] [(m0, .inr (10, [.int th, .ref m1, .ref m2, .ref m3, .int (nI n), .int (nI P), .ref m4, .int (nI nn), .ref m5, .ref m6, .ref m7, .ref m8, .ref m9, .int (zI sb), .ref m10, .ref m11, .int al, .ref m12, .int (nI tn), .int (nI zs), .int (nI hp), .int (zI iw), .ref m13, .ref m14, .int (nI nk), .ref m15, .ref m16, .ref m17, .int (nI dy), .int (nI ln), .ref m18, .ref m19, .ref m20, .ref m21])), (m1, .inl (cI, 24, .inl kd)), (m2, .inl (cI, 24, .inl ag)), (m3, .inl (cI, 24, .inl (nF cb))), (m4, .inl (cI, 30, .inl nz)), (m5, .inl (cI, 24, .inl (nF pb))), (m6, .inl (cI, 480, .inl mk)), (m7, .inl (cI, 20, .inl mh)), (m8, .inl (cI, 120, .inl mt)), (m9, .inl (cI, 24, .inl mu)), (m10, .inl (cI, 24, .inl mi)), (m11, .inl (cI, 24, .inl of_)), (m12, .inl (cB, 100, .inl (bF bt))), (m13, .inl (cI, 6, .inl (nF ms))), (m14, .inl (cZ, 6, .inl (zF dn_))), (m15, .inl (cI, 6, .inl (nF ns_))), (m16, .inl (cZ, 6, .inl (zF nd_))), (m17, .inl (cI, 144, .inl vls)), (m18, .inl (cI, 600, .inl ld)), (m19, .inl (cI, 600, .inl lc)), (m20, .inl (cI, 600, .inl lm)), (m21, .inl (cI, 10, .inl mp))] (fun w : va_W => ∃ (mh1 : Nat → Int32) (mt1 : Nat → Int32) (mu1 : Nat → Int32) (sb1 : Bool) (vls1 : Nat → Int32), (sb1 = true → SC mk P mh1 mt1 mu1) ∧ ((∀ x, x < n → ∀ z, z < nk → vls1 (6 * x + z) = vlC mk P ag pb mi of_ al x (ms z))) ∧ w = [(m0, .inr (10, [.int th, .ref m1, .ref m2, .ref m3, .int (nI n), .int (nI P), .ref m4, .int (nI nn), .ref m5, .ref m6, .ref m7, .ref m8, .ref m9, .int (zI sb1), .ref m10, .ref m11, .int al, .ref m12, .int (nI tn), .int (nI zs), .int (nI hp), .int (zI iw), .ref m13, .ref m14, .int (nI nk), .ref m15, .ref m16, .ref m17, .int (nI dy), .int (nI ln), .ref m18, .ref m19, .ref m20, .ref m21])), (m1, .inl (cI, 24, .inl kd)), (m2, .inl (cI, 24, .inl ag)), (m3, .inl (cI, 24, .inl (nF cb))), (m4, .inl (cI, 30, .inl nz)), (m5, .inl (cI, 24, .inl (nF pb))), (m6, .inl (cI, 480, .inl mk)), (m7, .inl (cI, 20, .inl mh1)), (m8, .inl (cI, 120, .inl mt1)), (m9, .inl (cI, 24, .inl mu1)), (m10, .inl (cI, 24, .inl mi)), (m11, .inl (cI, 24, .inl of_)), (m12, .inl (cB, 100, .inl (bF bt))), (m13, .inl (cI, 6, .inl (nF ms))), (m14, .inl (cZ, 6, .inl (zF dn_))), (m15, .inl (cI, 6, .inl (nF ns_))), (m16, .inl (cZ, 6, .inl (zF nd_))), (m17, .inl (cI, 144, .inl vls1)), (m18, .inl (cI, 600, .inl ld)), (m19, .inl (cI, 600, .inl lc)), (m20, .inl (cI, 600, .inl lm)), (m21, .inl (cI, 10, .inl mp))]) 0 0 := by
  refine e_M (Qf := fun A => va_Qv (fun w : va_W => ∃ (mh1 : Nat → Int32) (mt1 : Nat → Int32) (mu1 : Nat → Int32) (sb1 : Bool) (vls1 : Nat → Int32), (sb1 = true → SC mk P mh1 mt1 mu1) ∧ ((∀ x, x < n → ∀ z, z < nk → vls1 (6 * x + z) = vlC mk P ag pb mi of_ al x (ms z))) ∧ w = [(m0, .inr (10, [.int th, .ref m1, .ref m2, .ref m3, .int (nI n), .int (nI P), .ref m4, .int (nI nn), .ref m5, .ref m6, .ref m7, .ref m8, .ref m9, .int (zI sb1), .ref m10, .ref m11, .int al, .ref m12, .int (nI tn), .int (nI zs), .int (nI hp), .int (zI iw), .ref m13, .ref m14, .int (nI nk), .ref m15, .ref m16, .ref m17, .int (nI dy), .int (nI ln), .ref m18, .ref m19, .ref m20, .ref m21])), (m1, .inl (cI, 24, .inl kd)), (m2, .inl (cI, 24, .inl ag)), (m3, .inl (cI, 24, .inl (nF cb))), (m4, .inl (cI, 30, .inl nz)), (m5, .inl (cI, 24, .inl (nF pb))), (m6, .inl (cI, 480, .inl mk)), (m7, .inl (cI, 20, .inl mh1)), (m8, .inl (cI, 120, .inl mt1)), (m9, .inl (cI, 24, .inl mu1)), (m10, .inl (cI, 24, .inl mi)), (m11, .inl (cI, 24, .inl of_)), (m12, .inl (cB, 100, .inl (bF bt))), (m13, .inl (cI, 6, .inl (nF ms))), (m14, .inl (cZ, 6, .inl (zF dn_))), (m15, .inl (cI, 6, .inl (nF ns_))), (m16, .inl (cZ, 6, .inl (zF nd_))), (m17, .inl (cI, 144, .inl vls1)), (m18, .inl (cI, 600, .inl ld)), (m19, .inl (cI, 600, .inl lc)), (m20, .inl (cI, 600, .inl lm)), (m21, .inl (cI, 10, .inl mp))]) (Bw D A) A) (cc := cX10_values) (maxL := 3) (ret := none) (by decide) rfl (Nat.le_of_ble_eq_true rfl) ?_
  intro p e s m args below meth c ls A Q H locs hx hb hr hml hts hown hlk hnm hc hw hl hQ
  have hl : lv_has ls 3 [(0, .ref m0)] := hl
  have in_10 : ∀ w ∈ u_ws RX10 TX10 34, w ∈ wsX10_values := fun _ h => List.mem_cons_of_mem _ (List.mem_append_right _ h)
  have lk_0 := hts (.fieldLink RX10 89 "PloughingMatchModel" "men" "I") (List.mem_of_getElem? (i := 1) rfl)
  have lk_1 := hts (.fieldLink RX10 79 "PloughingMatchModel" "keys" "I") (List.mem_of_getElem? (i := 2) rfl)
  have lk_2 := hts (.fieldLink RX10 64 "PloughingMatchModel" "values" "[I") (List.mem_of_getElem? (i := 3) rfl)
  have lk_3 := hts (.fieldLink RX10 51 "PloughingMatchModel" "keySort" "[I") (List.mem_of_getElem? (i := 4) rfl)
  refine lv_iconst (v := nI 0) hx hb dX10_values_0 (by decide) ?_
  refine lv_istore_n (lv' := [(1, .int (nI 0)), (0, .ref m0)]) hx hb dX10_values_1 rfl hl (by decide) rfl (fun ls hl => ?_)
  have key2 : ∀ (fuel : Nat) (x9 : Nat) (vl1 : Nat → Int32) (mh2 : Nat → Int32) (mt2 : Nat → Int32) (mu2 : Nat → Int32) (sb2 : Bool), x9 ≤ n → (∀ x, x < x9 → ∀ z, z < nk → vl1 (6 * x + z) = vlC mk P ag pb mi of_ al x (ms z)) → (sb2 = true → SC mk P mh2 mt2 mu2) → n - x9 < fuel → ∀ (H : Heap) (locs : List Loc) (ls : Array Slot), Wd D A s H locs [(m0, .inr (10, [.int th, .ref m1, .ref m2, .ref m3, .int (nI n), .int (nI P), .ref m4, .int (nI nn), .ref m5, .ref m6, .ref m7, .ref m8, .ref m9, .int (zI sb2), .ref m10, .ref m11, .int al, .ref m12, .int (nI tn), .int (nI zs), .int (nI hp), .int (zI iw), .ref m13, .ref m14, .int (nI nk), .ref m15, .ref m16, .ref m17, .int (nI dy), .int (nI ln), .ref m18, .ref m19, .ref m20, .ref m21])), (m1, .inl (cI, 24, .inl kd)), (m2, .inl (cI, 24, .inl ag)), (m3, .inl (cI, 24, .inl (nF cb))), (m4, .inl (cI, 30, .inl nz)), (m5, .inl (cI, 24, .inl (nF pb))), (m6, .inl (cI, 480, .inl mk)), (m7, .inl (cI, 20, .inl mh2)), (m8, .inl (cI, 120, .inl mt2)), (m9, .inl (cI, 24, .inl mu2)), (m10, .inl (cI, 24, .inl mi)), (m11, .inl (cI, 24, .inl of_)), (m12, .inl (cB, 100, .inl (bF bt))), (m13, .inl (cI, 6, .inl (nF ms))), (m14, .inl (cZ, 6, .inl (zF dn_))), (m15, .inl (cI, 6, .inl (nF ns_))), (m16, .inl (cZ, 6, .inl (zF nd_))), (m17, .inl (cI, 144, .inl vl1)), (m18, .inl (cI, 600, .inl ld)), (m19, .inl (cI, 600, .inl lc)), (m20, .inl (cI, 600, .inl lm)), (m21, .inl (cI, 10, .inl mp))] → lv_has ls 3 [(0, .ref m0), (1, .int (nI x9))] → W p l e rm_c_X10_values s m args below meth c H locs 0 0 Q (F0 m 2 ls []) := by
    intro fuel
    induction fuel with
    | zero => intro x9 vl1 mh2 mt2 mu2 sb2 hx9 ev1 hs2 hfu; exact absurd hfu (Nat.not_lt_zero _)
    | succ fuel ih =>
      intro x9 vl1 mh2 mt2 mu2 sb2 hx9 ev1 hs2 hfu H locs ls hw hl
      have ih2 := ih
      refine lv_iload_n hx hb dX10_values_2 rfl (lv_at hl 1 rfl) ?_
      refine lv_aload_n hx hb dX10_values_3 rfl (lv_at hl 0 rfl) ?_
      refine w_get (C := RX10) (T := TX10) (N := 34) (ci := 10) hx hb hts in_10 hown hc hw 0 4 rfl rfl (by decide) lk_0 rfl dX10_values_4 ?_
      refine wb_icmp_ge (tgt := 54) hx hb (by omega) (by omega) dX10_values_7 (by decide) (fun c_1 => ?_) (fun c_1 => ?_)
      · skip
        subst hQ
        exact r_v hx hb hr hlk hw ⟨mh2, mt2, mu2, sb2, vl1, hs2, (by rw [show x9 = n by omega] at ev1; exact ev1), rfl⟩ dX10_values_54
      · skip
        refine lv_iconst (v := nI 0) hx hb dX10_values_10 (by decide) ?_
        refine lv_istore_n (lv' := [(2, .int (nI 0)), (0, .ref m0), (1, .int (nI x9))]) hx hb dX10_values_11 rfl hl (by decide) rfl (fun ls hl => ?_)
        have key12 : ∀ (fuel : Nat) (z9 : Nat) (vl2 : Nat → Int32) (mh2 : Nat → Int32) (mt2 : Nat → Int32) (mu2 : Nat → Int32) (sb2 : Bool), z9 ≤ nk → (∀ x, x < x9 → ∀ z, z < nk → vl2 (6 * x + z) = vlC mk P ag pb mi of_ al x (ms z)) → (∀ z, z < z9 → vl2 (6 * x9 + z) = vlC mk P ag pb mi of_ al x9 (ms z)) → (sb2 = true → SC mk P mh2 mt2 mu2) → nk - z9 < fuel → ∀ (H : Heap) (locs : List Loc) (ls : Array Slot), Wd D A s H locs [(m0, .inr (10, [.int th, .ref m1, .ref m2, .ref m3, .int (nI n), .int (nI P), .ref m4, .int (nI nn), .ref m5, .ref m6, .ref m7, .ref m8, .ref m9, .int (zI sb2), .ref m10, .ref m11, .int al, .ref m12, .int (nI tn), .int (nI zs), .int (nI hp), .int (zI iw), .ref m13, .ref m14, .int (nI nk), .ref m15, .ref m16, .ref m17, .int (nI dy), .int (nI ln), .ref m18, .ref m19, .ref m20, .ref m21])), (m1, .inl (cI, 24, .inl kd)), (m2, .inl (cI, 24, .inl ag)), (m3, .inl (cI, 24, .inl (nF cb))), (m4, .inl (cI, 30, .inl nz)), (m5, .inl (cI, 24, .inl (nF pb))), (m6, .inl (cI, 480, .inl mk)), (m7, .inl (cI, 20, .inl mh2)), (m8, .inl (cI, 120, .inl mt2)), (m9, .inl (cI, 24, .inl mu2)), (m10, .inl (cI, 24, .inl mi)), (m11, .inl (cI, 24, .inl of_)), (m12, .inl (cB, 100, .inl (bF bt))), (m13, .inl (cI, 6, .inl (nF ms))), (m14, .inl (cZ, 6, .inl (zF dn_))), (m15, .inl (cI, 6, .inl (nF ns_))), (m16, .inl (cZ, 6, .inl (zF nd_))), (m17, .inl (cI, 144, .inl vl2)), (m18, .inl (cI, 600, .inl ld)), (m19, .inl (cI, 600, .inl lc)), (m20, .inl (cI, 600, .inl lm)), (m21, .inl (cI, 10, .inl mp))] → lv_has ls 3 [(0, .ref m0), (1, .int (nI x9)), (2, .int (nI z9))] → W p l e rm_c_X10_values s m args below meth c H locs 0 0 Q (F0 m 12 ls []) := by
          intro fuel
          induction fuel with
          | zero => intro z9 vl2 mh2 mt2 mu2 sb2 hz9 ev2 ev3 hs2 hfu; exact absurd hfu (Nat.not_lt_zero _)
          | succ fuel ih =>
            intro z9 vl2 mh2 mt2 mu2 sb2 hz9 ev2 ev3 hs2 hfu H locs ls hw hl
            have ih12 := ih
            refine lv_iload_n hx hb dX10_values_12 rfl (lv_at hl 2 rfl) ?_
            refine lv_aload_n hx hb dX10_values_13 rfl (lv_at hl 0 rfl) ?_
            refine w_get (C := RX10) (T := TX10) (N := 34) (ci := 10) hx hb hts in_10 hown hc hw 0 24 rfl rfl (by decide) lk_1 rfl dX10_values_14 ?_
            refine wb_icmp_ge (tgt := 48) hx hb (by omega) (by omega) dX10_values_17 (by decide) (fun c_2 => ?_) (fun c_2 => ?_)
            · skip
              refine wn_iinc (a := x9) (d := 1) (lv' := [(1, .int (nI (x9 + 1))), (0, .ref m0), (2, .int (nI z9))]) hx hb dX10_values_48 hl (k := 1) rfl (by decide) rfl (fun ls hl => ?_)
              refine lv_goto (tgt := 2) hx hb dX10_values_51 (by decide) ?_
              exact ih2 (x9 + 1) vl2 mh2 mt2 mu2 sb2 (by omega) (fun x h z hz9 => by by_cases e9 : x = x9; (subst e9; exact ev3 z (by omega)); exact ev2 x (by omega) z hz9) hs2 (by omega) _ _ _ hw (lv_sub hl [1, 0] rfl)
            · skip
              refine lv_aload_n hx hb dX10_values_20 rfl (lv_at hl 0 rfl) ?_
              refine w_get (C := RX10) (T := TX10) (N := 34) (ci := 10) hx hb hts in_10 hown hc hw 0 27 rfl rfl (by decide) lk_2 rfl dX10_values_21 ?_
              refine lv_bipush (v := nI 6) hx hb dX10_values_24 (by decide) ?_
              refine lv_iload_n hx hb dX10_values_26 rfl (lv_at hl 1 rfl) ?_
              refine wn_imul hx hb dX10_values_27 ?_
              refine lv_iload_n hx hb dX10_values_28 rfl (lv_at hl 2 rfl) ?_
              refine wn_iadd hx hb dX10_values_29 ?_
              refine lv_aload_n hx hb dX10_values_30 rfl (lv_at hl 0 rfl) ?_
              refine lv_iload_n hx hb dX10_values_31 rfl (lv_at hl 1 rfl) ?_
              refine lv_aload_n hx hb dX10_values_32 rfl (lv_at hl 0 rfl) ?_
              refine w_get (C := RX10) (T := TX10) (N := 34) (ci := 10) hx hb hts in_10 hown hc hw 0 22 rfl rfl (by decide) lk_3 rfl dX10_values_33 ?_
              refine lv_iload_n hx hb dX10_values_36 rfl (lv_at hl 2 rfl) ?_
              refine w_iald hx hb hc hw 13 rfl rfl (i := z9) (by omega) (by decide) dX10_values_37 ?_
              refine wn_top (y := nI (ms z9)) rfl ?_
              refine k_i (wr := []) (j_V ⟨hx, hb, hml, hown, hts⟩ (c_X10_valueOf l D cI cZ cB cJ b0 adK adV m0 m1 m2 m3 m4 m5 m6 m7 m8 m9 m10 m11 m12 m13 m14 m15 m16 m17 m18 m19 m20 m21 th n P nn sb2 al tn zs hp iw nk dy ln kd ag cb nz pb mk mh2 mt2 mu2 mi of_ bt ms dn_ ns_ nd_ vl2 ld lc lm mp x9 (ms z9) (by omega) hmk hs2 hmi hal (by omega) (hpP x9 (by omega)) (hms z9 (by omega)) H.size) (cwV 2 hts gX10_values_X10_valueOf rfl rfl rfl (by decide +kernel) ⟨by decide, by decide⟩) hc hw [0, 1, 2, 3, 4, 5, 6, 7, 8, 9, 10, 11, 12, 13, 14, 15, 16, 17, 18, 19, 20, 21] rfl rfl 10 0 rfl rfl rfl rfl hl.1 rfl (Nat.le_of_ble_eq_true rfl) dX10_values_38 ⟨by decide, by decide⟩) hc hw [0, 1, 2, 3, 4, 5, 6, 7, 8, 9, 10, 11, 12, 13, 14, 15, 16, 17, 18, 19, 20, 21] [] rfl rfl (by decide) (by decide) (fun r w H locs hq hw => ?_)
              obtain ⟨mh1_3, mt1_4, mu1_5, sb1_6, hp_7, rfl, rfl⟩ := hq
              have hw : Wd D A s H locs [(m0, .inr (10, [.int th, .ref m1, .ref m2, .ref m3, .int (nI n), .int (nI P), .ref m4, .int (nI nn), .ref m5, .ref m6, .ref m7, .ref m8, .ref m9, .int (zI sb1_6), .ref m10, .ref m11, .int al, .ref m12, .int (nI tn), .int (nI zs), .int (nI hp), .int (zI iw), .ref m13, .ref m14, .int (nI nk), .ref m15, .ref m16, .ref m17, .int (nI dy), .int (nI ln), .ref m18, .ref m19, .ref m20, .ref m21])), (m1, .inl (cI, 24, .inl kd)), (m2, .inl (cI, 24, .inl ag)), (m3, .inl (cI, 24, .inl (nF cb))), (m4, .inl (cI, 30, .inl nz)), (m5, .inl (cI, 24, .inl (nF pb))), (m6, .inl (cI, 480, .inl mk)), (m7, .inl (cI, 20, .inl mh1_3)), (m8, .inl (cI, 120, .inl mt1_4)), (m9, .inl (cI, 24, .inl mu1_5)), (m10, .inl (cI, 24, .inl mi)), (m11, .inl (cI, 24, .inl of_)), (m12, .inl (cB, 100, .inl (bF bt))), (m13, .inl (cI, 6, .inl (nF ms))), (m14, .inl (cZ, 6, .inl (zF dn_))), (m15, .inl (cI, 6, .inl (nF ns_))), (m16, .inl (cZ, 6, .inl (zF nd_))), (m17, .inl (cI, 144, .inl vl2)), (m18, .inl (cI, 600, .inl ld)), (m19, .inl (cI, 600, .inl lc)), (m20, .inl (cI, 600, .inl lm)), (m21, .inl (cI, 10, .inl mp))] := hw
              refine w_iast (ws1 := [(m0, .inr (10, [.int th, .ref m1, .ref m2, .ref m3, .int (nI n), .int (nI P), .ref m4, .int (nI nn), .ref m5, .ref m6, .ref m7, .ref m8, .ref m9, .int (zI sb1_6), .ref m10, .ref m11, .int al, .ref m12, .int (nI tn), .int (nI zs), .int (nI hp), .int (zI iw), .ref m13, .ref m14, .int (nI nk), .ref m15, .ref m16, .ref m17, .int (nI dy), .int (nI ln), .ref m18, .ref m19, .ref m20, .ref m21])), (m1, .inl (cI, 24, .inl kd)), (m2, .inl (cI, 24, .inl ag)), (m3, .inl (cI, 24, .inl (nF cb))), (m4, .inl (cI, 30, .inl nz)), (m5, .inl (cI, 24, .inl (nF pb))), (m6, .inl (cI, 480, .inl mk)), (m7, .inl (cI, 20, .inl mh1_3)), (m8, .inl (cI, 120, .inl mt1_4)), (m9, .inl (cI, 24, .inl mu1_5)), (m10, .inl (cI, 24, .inl mi)), (m11, .inl (cI, 24, .inl of_)), (m12, .inl (cB, 100, .inl (bF bt))), (m13, .inl (cI, 6, .inl (nF ms))), (m14, .inl (cZ, 6, .inl (zF dn_))), (m15, .inl (cI, 6, .inl (nF ns_))), (m16, .inl (cZ, 6, .inl (zF nd_))), (m17, .inl (cI, 144, .inl (upd vl2 (6 * x9 + z9) (vlC mk P ag pb mi of_ al x9 (ms z9))))), (m18, .inl (cI, 600, .inl ld)), (m19, .inl (cI, 600, .inl lc)), (m20, .inl (cI, 600, .inl lm)), (m21, .inl (cI, 10, .inl mp))]) hx hb hc hw 17 rfl rfl (i := 6 * x9 + z9) (by omega) (by decide) rfl dX10_values_41 (fun H locs hw => ?_)
              refine wn_iinc (a := z9) (d := 1) (lv' := [(2, .int (nI (z9 + 1))), (0, .ref m0), (1, .int (nI x9))]) hx hb dX10_values_42 hl (k := 2) rfl (by decide) rfl (fun ls hl => ?_)
              refine lv_goto (tgt := 12) hx hb dX10_values_45 (by decide) ?_
              exact ih12 (z9 + 1) (upd vl2 (6 * x9 + z9) (vlC mk P ag pb mi of_ al x9 (ms z9))) mh1_3 mt1_4 mu1_5 sb1_6 (by omega) (fun x h z hz8 => by rw [pk_un (by omega)]; exact ev2 x h z hz8) (fun z h => by by_cases e9 : z = z9; (subst e9; exact pk_us); (rw [pk_un (by omega)]; exact ev3 z (by omega))) hp_7 (by omega) _ _ _ hw (lv_sub hl [1, 2, 0] rfl)
        exact key12 (nk - 0 + 1) 0 vl1 mh2 mt2 mu2 sb2 (by omega) ev1 (fun z h => absurd h (Nat.not_lt_zero z)) hs2 (Nat.lt_succ_self _) _ _ _ hw (lv_sub hl [1, 2, 0] rfl)
  exact key2 (n - 0 + 1) 0 vls mh mt mu sb (by omega) (fun x h => absurd h (Nat.not_lt_zero x)) hs (Nat.lt_succ_self _) _ _ _ hw (lv_sub hl [1, 0] rfl)
def rm_c_X10_isAhead : Room := { frames := 0, cells := 0, slots := 0, locals := 0 }
set_option maxHeartbeats 4000000 in
set_option maxRecDepth 100000 in
theorem c_X10_isAhead (l : Launch) (D : va_G) (cI cZ cB cJ : ClassId) (b0 : Nat) (adK adV : Nat → Nat) (m0 m1 m2 m3 m4 m5 m6 m7 m8 m9 m10 m11 m12 m13 m14 m15 m16 m17 m18 m19 m20 m21 : Nat) (th : Int32) (n : Nat) (P : Nat) (nn : Nat) (sb : Bool) (al : Int32) (tn : Nat) (zs : Nat) (hp : Nat) (iw : Bool) (nk : Nat) (dy : Nat) (ln : Nat) (kd : Nat → Int32) (ag : Nat → Int32) (cb : Nat → Nat) (nz : Nat → Int32) (pb : Nat → Nat) (mk : Nat → Int32) (mh : Nat → Int32) (mt : Nat → Int32) (mu : Nat → Int32) (mi : Nat → Int32) (of_ : Nat → Int32) (bt : Nat → Nat) (ms : Nat → Nat) (dn_ : Nat → Bool) (ns_ : Nat → Nat) (nd_ : Nat → Bool) (vls : Nat → Int32) (ld : Nat → Int32) (lc : Nat → Int32) (lm : Nat → Int32) (mp : Nat → Int32) (x : Nat) (y : Nat) (hn24 : n ≤ 24) (hnk : nk ≤ 6) (hvs : (∀ x, x < n → ∀ z, z < nk → vls (6 * x + z) = vlC mk P ag pb mi of_ al x (ms z))) (hx0 : x < n) (hy0 : y < n) : Mi l yX10_isAhead wsX10_isAhead rm_c_X10_isAhead D (TYs cI cZ cB cJ) b0 adK adV [.ref m0, .int (nI x), .int (nI y)] [(m0, .inr (10, [.int th, .ref m1, .ref m2, .ref m3, .int (nI n), .int (nI P), .ref m4, .int (nI nn), .ref m5, .ref m6, .ref m7, .ref m8, .ref m9, .int (zI sb), .ref m10, .ref m11, .int al, .ref m12, .int (nI tn), .int (nI zs), .int (nI hp), .int (zI iw), .ref m13, .ref m14, .int (nI nk), .ref m15, .ref m16, .ref m17, .int (nI dy), .int (nI ln), .ref m18, .ref m19, .ref m20, .ref m21])), (m1, .inl (cI, 24, .inl kd)), (m2, .inl (cI, 24, .inl ag)), (m3, .inl (cI, 24, .inl (nF cb))), (m4, .inl (cI, 30, .inl nz)), (m5, .inl (cI, 24, .inl (nF pb))), (m6, .inl (cI, 480, .inl mk)), (m7, .inl (cI, 20, .inl mh)), (m8, .inl (cI, 120, .inl mt)), (m9, .inl (cI, 24, .inl mu)), (m10, .inl (cI, 24, .inl mi)), (m11, .inl (cI, 24, .inl of_)), (m12, .inl (cB, 100, .inl (bF bt))), (m13, .inl (cI, 6, .inl (nF ms))), (m14, .inl (cZ, 6, .inl (zF dn_))), (m15, .inl (cI, 6, .inl (nF ns_))), (m16, .inl (cZ, 6, .inl (zF nd_))), (m17, .inl (cI, 144, .inl vls)), (m18, .inl (cI, 600, .inl ld)), (m19, .inl (cI, 600, .inl lc)), (m20, .inl (cI, 600, .inl lm)), (m21, .inl (cI, 10, .inl mp))] (fun (r : Int32) (w : va_W) => r = zI (aha (fun z => vlC mk P ag pb mi of_ al x (ms z)) (fun z => vlC mk P ag pb mi of_ al y (ms z)) (fun z => !dn_ z) x y nk 0) ∧ w = [(m0, .inr (10, [.int th, .ref m1, .ref m2, .ref m3, .int (nI n), .int (nI P), .ref m4, .int (nI nn), .ref m5, .ref m6, .ref m7, .ref m8, .ref m9, .int (zI sb), .ref m10, .ref m11, .int al, .ref m12, .int (nI tn), .int (nI zs), .int (nI hp), .int (zI iw), .ref m13, .ref m14, .int (nI nk), .ref m15, .ref m16, .ref m17, .int (nI dy), .int (nI ln), .ref m18, .ref m19, .ref m20, .ref m21])), (m1, .inl (cI, 24, .inl kd)), (m2, .inl (cI, 24, .inl ag)), (m3, .inl (cI, 24, .inl (nF cb))), (m4, .inl (cI, 30, .inl nz)), (m5, .inl (cI, 24, .inl (nF pb))), (m6, .inl (cI, 480, .inl mk)), (m7, .inl (cI, 20, .inl mh)), (m8, .inl (cI, 120, .inl mt)), (m9, .inl (cI, 24, .inl mu)), (m10, .inl (cI, 24, .inl mi)), (m11, .inl (cI, 24, .inl of_)), (m12, .inl (cB, 100, .inl (bF bt))), (m13, .inl (cI, 6, .inl (nF ms))), (m14, .inl (cZ, 6, .inl (zF dn_))), (m15, .inl (cI, 6, .inl (nF ns_))), (m16, .inl (cZ, 6, .inl (zF nd_))), (m17, .inl (cI, 144, .inl vls)), (m18, .inl (cI, 600, .inl ld)), (m19, .inl (cI, 600, .inl lc)), (m20, .inl (cI, 600, .inl lm)), (m21, .inl (cI, 10, .inl mp))]) 0 0 := by
  refine e_M (Qf := fun A => va_Qi (fun (r : Int32) (w : va_W) => r = zI (aha (fun z => vlC mk P ag pb mi of_ al x (ms z)) (fun z => vlC mk P ag pb mi of_ al y (ms z)) (fun z => !dn_ z) x y nk 0) ∧ w = [(m0, .inr (10, [.int th, .ref m1, .ref m2, .ref m3, .int (nI n), .int (nI P), .ref m4, .int (nI nn), .ref m5, .ref m6, .ref m7, .ref m8, .ref m9, .int (zI sb), .ref m10, .ref m11, .int al, .ref m12, .int (nI tn), .int (nI zs), .int (nI hp), .int (zI iw), .ref m13, .ref m14, .int (nI nk), .ref m15, .ref m16, .ref m17, .int (nI dy), .int (nI ln), .ref m18, .ref m19, .ref m20, .ref m21])), (m1, .inl (cI, 24, .inl kd)), (m2, .inl (cI, 24, .inl ag)), (m3, .inl (cI, 24, .inl (nF cb))), (m4, .inl (cI, 30, .inl nz)), (m5, .inl (cI, 24, .inl (nF pb))), (m6, .inl (cI, 480, .inl mk)), (m7, .inl (cI, 20, .inl mh)), (m8, .inl (cI, 120, .inl mt)), (m9, .inl (cI, 24, .inl mu)), (m10, .inl (cI, 24, .inl mi)), (m11, .inl (cI, 24, .inl of_)), (m12, .inl (cB, 100, .inl (bF bt))), (m13, .inl (cI, 6, .inl (nF ms))), (m14, .inl (cZ, 6, .inl (zF dn_))), (m15, .inl (cI, 6, .inl (nF ns_))), (m16, .inl (cZ, 6, .inl (zF nd_))), (m17, .inl (cI, 144, .inl vls)), (m18, .inl (cI, 600, .inl ld)), (m19, .inl (cI, 600, .inl lc)), (m20, .inl (cI, 600, .inl lm)), (m21, .inl (cI, 10, .inl mp))]) (Bw D A) A) (cc := cX10_isAhead) (maxL := 6) (ret := (some .boolean)) (by decide) rfl (Nat.le_of_ble_eq_true rfl) ?_
  intro p e s m args below meth c ls A Q H locs hx hb hr hml hts hown hlk hnm hc hw hl hQ
  have hl : lv_has ls 6 [(0, .ref m0), (1, .int (nI x)), (2, .int (nI y))] := hl
  have in_10 : ∀ w ∈ u_ws RX10 TX10 34, w ∈ wsX10_isAhead := fun _ h => List.mem_cons_of_mem _ (List.mem_append_right _ h)
  have lk_0 := hts (.fieldLink RX10 79 "PloughingMatchModel" "keys" "I") (List.mem_of_getElem? (i := 1) rfl)
  have lk_1 := hts (.fieldLink RX10 64 "PloughingMatchModel" "values" "[I") (List.mem_of_getElem? (i := 2) rfl)
  have lk_2 := hts (.fieldLink RX10 54 "PloughingMatchModel" "isDown" "[Z") (List.mem_of_getElem? (i := 3) rfl)
  refine lv_iconst (v := nI 0) hx hb dX10_isAhead_0 (by decide) ?_
  refine lv_istore_n (lv' := [(3, .int (nI 0)), (0, .ref m0), (1, .int (nI x)), (2, .int (nI y))]) hx hb dX10_isAhead_1 rfl hl (by decide) rfl (fun ls hl => ?_)
  have key2 : ∀ (fuel : Nat) (k : Nat), k ≤ nk → aha (fun z => vlC mk P ag pb mi of_ al x (ms z)) (fun z => vlC mk P ag pb mi of_ al y (ms z)) (fun z => !dn_ z) x y nk 0 = aha (fun z => vlC mk P ag pb mi of_ al x (ms z)) (fun z => vlC mk P ag pb mi of_ al y (ms z)) (fun z => !dn_ z) x y (nk - k) k → nk - k < fuel → ∀ (H : Heap) (locs : List Loc) (ls : Array Slot), Wd D A s H locs [(m0, .inr (10, [.int th, .ref m1, .ref m2, .ref m3, .int (nI n), .int (nI P), .ref m4, .int (nI nn), .ref m5, .ref m6, .ref m7, .ref m8, .ref m9, .int (zI sb), .ref m10, .ref m11, .int al, .ref m12, .int (nI tn), .int (nI zs), .int (nI hp), .int (zI iw), .ref m13, .ref m14, .int (nI nk), .ref m15, .ref m16, .ref m17, .int (nI dy), .int (nI ln), .ref m18, .ref m19, .ref m20, .ref m21])), (m1, .inl (cI, 24, .inl kd)), (m2, .inl (cI, 24, .inl ag)), (m3, .inl (cI, 24, .inl (nF cb))), (m4, .inl (cI, 30, .inl nz)), (m5, .inl (cI, 24, .inl (nF pb))), (m6, .inl (cI, 480, .inl mk)), (m7, .inl (cI, 20, .inl mh)), (m8, .inl (cI, 120, .inl mt)), (m9, .inl (cI, 24, .inl mu)), (m10, .inl (cI, 24, .inl mi)), (m11, .inl (cI, 24, .inl of_)), (m12, .inl (cB, 100, .inl (bF bt))), (m13, .inl (cI, 6, .inl (nF ms))), (m14, .inl (cZ, 6, .inl (zF dn_))), (m15, .inl (cI, 6, .inl (nF ns_))), (m16, .inl (cZ, 6, .inl (zF nd_))), (m17, .inl (cI, 144, .inl vls)), (m18, .inl (cI, 600, .inl ld)), (m19, .inl (cI, 600, .inl lc)), (m20, .inl (cI, 600, .inl lm)), (m21, .inl (cI, 10, .inl mp))] → lv_has ls 6 [(0, .ref m0), (1, .int (nI x)), (2, .int (nI y)), (3, .int (nI k))] → W p l e rm_c_X10_isAhead s m args below meth c H locs 0 0 Q (F0 m 2 ls []) := by
    intro fuel
    induction fuel with
    | zero => intro k hk eq1 hfu; exact absurd hfu (Nat.not_lt_zero _)
    | succ fuel ih =>
      intro k hk eq1 hfu H locs ls hw hl
      have ih2 := ih
      refine lv_iload_n hx hb dX10_isAhead_2 rfl (lv_at hl 3 rfl) ?_
      refine lv_aload_n hx hb dX10_isAhead_3 rfl (lv_at hl 0 rfl) ?_
      refine w_get (C := RX10) (T := TX10) (N := 34) (ci := 10) hx hb hts in_10 hown hc hw 0 24 rfl rfl (by decide) lk_0 rfl dX10_isAhead_4 ?_
      refine wb_icmp_ge (tgt := 86) hx hb (by omega) (by omega) dX10_isAhead_7 (by decide) (fun c_1 => ?_) (fun c_1 => ?_)
      · skip
        refine lv_iload_n hx hb dX10_isAhead_86 rfl (lv_at hl 1 rfl) ?_
        refine lv_iload_n hx hb dX10_isAhead_87 rfl (lv_at hl 2 rfl) ?_
        refine wb_icmp_ge (tgt := 95) hx hb (by omega) (by omega) dX10_isAhead_88 (by decide) (fun c_2 => ?_) (fun c_2 => ?_)
        · skip
          refine lv_iconst (v := nI 0) hx hb dX10_isAhead_95 (by decide) ?_
          subst hQ
          exact r_i hx hb hr rfl hlk hw ⟨(zI_f (by rw [eq1, show nk - k = 0 by omega]; exact decide_eq_false (by omega))), rfl⟩ dX10_isAhead_96
        · skip
          refine lv_iconst (v := nI 1) hx hb dX10_isAhead_91 (by decide) ?_
          refine lv_goto (tgt := 96) hx hb dX10_isAhead_92 (by decide) ?_
          subst hQ
          exact r_i hx hb hr rfl hlk hw ⟨(zI_t (by rw [eq1, show nk - k = 0 by omega]; exact decide_eq_true (by omega))), rfl⟩ dX10_isAhead_96
      · skip
        refine lv_aload_n hx hb dX10_isAhead_10 rfl (lv_at hl 0 rfl) ?_
        refine w_get (C := RX10) (T := TX10) (N := 34) (ci := 10) hx hb hts in_10 hown hc hw 0 27 rfl rfl (by decide) lk_1 rfl dX10_isAhead_11 ?_
        refine lv_bipush (v := nI 6) hx hb dX10_isAhead_14 (by decide) ?_
        refine lv_iload_n hx hb dX10_isAhead_16 rfl (lv_at hl 1 rfl) ?_
        refine wn_imul hx hb dX10_isAhead_17 ?_
        refine lv_iload_n hx hb dX10_isAhead_18 rfl (lv_at hl 3 rfl) ?_
        refine wn_iadd hx hb dX10_isAhead_19 ?_
        refine w_iald hx hb hc hw 17 rfl rfl (i := 6 * x + k) (by omega) (by decide) dX10_isAhead_20 ?_
        refine lv_istore (lv' := [(4, .int (vls (6 * x + k))), (0, .ref m0), (1, .int (nI x)), (2, .int (nI y)), (3, .int (nI k))]) hx hb dX10_isAhead_21 hl (by decide) rfl (fun ls hl => ?_)
        refine lv_aload_n hx hb dX10_isAhead_23 rfl (lv_at hl 1 rfl) ?_
        refine w_get (C := RX10) (T := TX10) (N := 34) (ci := 10) hx hb hts in_10 hown hc hw 0 27 rfl rfl (by decide) lk_1 rfl dX10_isAhead_24 ?_
        refine lv_bipush (v := nI 6) hx hb dX10_isAhead_27 (by decide) ?_
        refine lv_iload_n hx hb dX10_isAhead_29 rfl (lv_at hl 3 rfl) ?_
        refine wn_imul hx hb dX10_isAhead_30 ?_
        refine lv_iload_n hx hb dX10_isAhead_31 rfl (lv_at hl 4 rfl) ?_
        refine wn_iadd hx hb dX10_isAhead_32 ?_
        refine w_iald hx hb hc hw 17 rfl rfl (i := 6 * y + k) (by omega) (by decide) dX10_isAhead_33 ?_
        refine lv_istore (lv' := [(5, .int (vls (6 * y + k))), (4, .int (vls (6 * x + k))), (0, .ref m0), (1, .int (nI x)), (2, .int (nI y)), (3, .int (nI k))]) hx hb dX10_isAhead_34 hl (by decide) rfl (fun ls hl => ?_)
        refine lv_iload hx hb dX10_isAhead_36 (lv_at hl 1 rfl) ?_
        refine lv_iload hx hb dX10_isAhead_38 (lv_at hl 0 rfl) ?_
        refine lv_icmp_eq (tgt := 80) hx hb dX10_isAhead_40 (by decide) (fun c_3 => ?_) (fun c_3 => ?_)
        · skip
          refine wn_iinc (a := k) (d := 1) (lv' := [(3, .int (nI (k + 1))), (5, .int (vls (6 * y + k))), (4, .int (vls (6 * x + k))), (0, .ref m0), (1, .int (nI x)), (2, .int (nI y))]) hx hb dX10_isAhead_80 hl (k := 5) rfl (by decide) rfl (fun ls hl => ?_)
          refine lv_goto (tgt := 2) hx hb dX10_isAhead_83 (by decide) ?_
          exact ih2 (k + 1) (by omega) (by rw [eq1, aha_s (by omega), ← hvs x (by omega) k (by omega), ← hvs y (by omega) k (by omega), if_pos (by assumption)]) (by omega) _ _ _ hw (lv_sub hl [3, 4, 5, 0] rfl)
        · skip
          have hne9 := c_3
          refine lv_aload_n hx hb dX10_isAhead_43 rfl (lv_at hl 2 rfl) ?_
          refine w_get (C := RX10) (T := TX10) (N := 34) (ci := 10) hx hb hts in_10 hown hc hw 0 23 rfl rfl (by decide) lk_2 rfl dX10_isAhead_44 ?_
          refine lv_iload_n hx hb dX10_isAhead_47 rfl (lv_at hl 5 rfl) ?_
          refine w_zald hx hb hc hw 14 rfl rfl (i := k) (by omega) (by decide) dX10_isAhead_48 ?_
          refine wn_top (y := zI (dn_ k)) rfl ?_
          refine wz_if_eq (tgt := 67) hx hb dX10_isAhead_49 (by decide) (fun c_4 => ?_) (fun c_4 => ?_)
          · skip
            have hd9 := c_4
            refine lv_iload hx hb dX10_isAhead_67 (lv_at hl 1 rfl) ?_
            refine lv_iload hx hb dX10_isAhead_69 (lv_at hl 0 rfl) ?_
            refine lv_icmp_ge (tgt := 78) hx hb dX10_isAhead_71 (by decide) (fun c_5 => ?_) (fun c_5 => ?_)
            · skip
              have c_5' := i32_nlt.mpr c_5
              have hc9 := c_5
              refine lv_iconst (v := nI 0) hx hb dX10_isAhead_78 (by decide) ?_
              subst hQ
              exact r_i hx hb hr rfl hlk hw ⟨(zI_f (by rw [eq1, aha_s (by omega), ← hvs x (by omega) k (by omega), ← hvs y (by omega) k (by omega), if_neg hne9]; first | exact ah_1 hd9 (i32_nle.mp hc9) | exact ah_1 hd9 hc9 | exact ah_2 hd9 hne9 (i32_nlt.mpr hc9) | exact ah_2 hd9 hne9 hc9 | exact ah_3 hd9 hc9 | exact ah_3 hd9 (i32_nle.mp hc9) | exact ah_4 hd9 hc9 | exact ah_4 hd9 (i32_nlt.mpr hc9))), rfl⟩ dX10_isAhead_79
            · skip
              have c_5' := i32_nle.mp c_5
              have hc9 := c_5
              refine lv_iconst (v := nI 1) hx hb dX10_isAhead_74 (by decide) ?_
              refine lv_goto (tgt := 79) hx hb dX10_isAhead_75 (by decide) ?_
              subst hQ
              exact r_i hx hb hr rfl hlk hw ⟨(zI_t (by rw [eq1, aha_s (by omega), ← hvs x (by omega) k (by omega), ← hvs y (by omega) k (by omega), if_neg hne9]; first | exact ah_1 hd9 (i32_nle.mp hc9) | exact ah_1 hd9 hc9 | exact ah_2 hd9 hne9 (i32_nlt.mpr hc9) | exact ah_2 hd9 hne9 hc9 | exact ah_3 hd9 hc9 | exact ah_3 hd9 (i32_nle.mp hc9) | exact ah_4 hd9 hc9 | exact ah_4 hd9 (i32_nlt.mpr hc9))), rfl⟩ dX10_isAhead_79
          · skip
            have hd9 := c_4
            refine lv_iload hx hb dX10_isAhead_52 (lv_at hl 1 rfl) ?_
            refine lv_iload hx hb dX10_isAhead_54 (lv_at hl 0 rfl) ?_
            refine lv_icmp_le (tgt := 63) hx hb dX10_isAhead_56 (by decide) (fun c_6 => ?_) (fun c_6 => ?_)
            · skip
              have c_6' := i32_nlt.mpr c_6
              have hc9 := c_6
              refine lv_iconst (v := nI 0) hx hb dX10_isAhead_63 (by decide) ?_
              refine lv_goto (tgt := 79) hx hb dX10_isAhead_64 (by decide) ?_
              subst hQ
              exact r_i hx hb hr rfl hlk hw ⟨(zI_f (by rw [eq1, aha_s (by omega), ← hvs x (by omega) k (by omega), ← hvs y (by omega) k (by omega), if_neg hne9]; first | exact ah_1 hd9 (i32_nle.mp hc9) | exact ah_1 hd9 hc9 | exact ah_2 hd9 hne9 (i32_nlt.mpr hc9) | exact ah_2 hd9 hne9 hc9 | exact ah_3 hd9 hc9 | exact ah_3 hd9 (i32_nle.mp hc9) | exact ah_4 hd9 hc9 | exact ah_4 hd9 (i32_nlt.mpr hc9))), rfl⟩ dX10_isAhead_79
            · skip
              have c_6' := i32_nle.mp c_6
              have hc9 := c_6
              refine lv_iconst (v := nI 1) hx hb dX10_isAhead_59 (by decide) ?_
              refine lv_goto (tgt := 79) hx hb dX10_isAhead_60 (by decide) ?_
              subst hQ
              exact r_i hx hb hr rfl hlk hw ⟨(zI_t (by rw [eq1, aha_s (by omega), ← hvs x (by omega) k (by omega), ← hvs y (by omega) k (by omega), if_neg hne9]; first | exact ah_1 hd9 (i32_nle.mp hc9) | exact ah_1 hd9 hc9 | exact ah_2 hd9 hne9 (i32_nlt.mpr hc9) | exact ah_2 hd9 hne9 hc9 | exact ah_3 hd9 hc9 | exact ah_3 hd9 (i32_nle.mp hc9) | exact ah_4 hd9 hc9 | exact ah_4 hd9 (i32_nlt.mpr hc9))), rfl⟩ dX10_isAhead_79
  exact key2 (nk - 0 + 1) 0 (by omega) rfl (Nat.lt_succ_self _) _ _ _ hw (lv_sub hl [1, 2, 3, 0] rfl)
def rm_c_X10_rankOf : Room := { frames := 1, cells := 0, slots := 0, locals := 25 }
set_option maxHeartbeats 4000000 in
set_option maxRecDepth 100000 in
theorem c_X10_rankOf (l : Launch) (D : va_G) (cI cZ cB cJ : ClassId) (b0 : Nat) (adK adV : Nat → Nat) (m0 m1 m2 m3 m4 m5 m6 m7 m8 m9 m10 m11 m12 m13 m14 m15 m16 m17 m18 m19 m20 m21 : Nat) (th : Int32) (n : Nat) (P : Nat) (nn : Nat) (sb : Bool) (al : Int32) (tn : Nat) (zs : Nat) (hp : Nat) (iw : Bool) (nk : Nat) (dy : Nat) (ln : Nat) (kd : Nat → Int32) (ag : Nat → Int32) (cb : Nat → Nat) (nz : Nat → Int32) (pb : Nat → Nat) (mk : Nat → Int32) (mh : Nat → Int32) (mt : Nat → Int32) (mu : Nat → Int32) (mi : Nat → Int32) (of_ : Nat → Int32) (bt : Nat → Nat) (ms : Nat → Nat) (dn_ : Nat → Bool) (ns_ : Nat → Nat) (nd_ : Nat → Bool) (vls : Nat → Int32) (ld : Nat → Int32) (lc : Nat → Int32) (lm : Nat → Int32) (mp : Nat → Int32) (kind : Int32) (kk : Int32) (x : Nat) (hn24 : n ≤ 24) (hnk : nk ≤ 6) (hvs : (∀ x, x < n → ∀ z, z < nk → vls (6 * x + z) = vlC mk P ag pb mi of_ al x (ms z))) (hr9 : rkO (fun a b => aha (fun z => vlC mk P ag pb mi of_ al a (ms z)) (fun z => vlC mk P ag pb mi of_ al b (ms z)) (fun z => !dn_ z) a b nk 0) kd kind kk n n 0 = some x) : Mi l yX10_rankOf wsX10_rankOf rm_c_X10_rankOf D (TYs cI cZ cB cJ) b0 adK adV [.ref m0, .int kind, .int kk] [(m0, .inr (10, [.int th, .ref m1, .ref m2, .ref m3, .int (nI n), .int (nI P), .ref m4, .int (nI nn), .ref m5, .ref m6, .ref m7, .ref m8, .ref m9, .int (zI sb), .ref m10, .ref m11, .int al, .ref m12, .int (nI tn), .int (nI zs), .int (nI hp), .int (zI iw), .ref m13, .ref m14, .int (nI nk), .ref m15, .ref m16, .ref m17, .int (nI dy), .int (nI ln), .ref m18, .ref m19, .ref m20, .ref m21])), (m1, .inl (cI, 24, .inl kd)), (m2, .inl (cI, 24, .inl ag)), (m3, .inl (cI, 24, .inl (nF cb))), (m4, .inl (cI, 30, .inl nz)), (m5, .inl (cI, 24, .inl (nF pb))), (m6, .inl (cI, 480, .inl mk)), (m7, .inl (cI, 20, .inl mh)), (m8, .inl (cI, 120, .inl mt)), (m9, .inl (cI, 24, .inl mu)), (m10, .inl (cI, 24, .inl mi)), (m11, .inl (cI, 24, .inl of_)), (m12, .inl (cB, 100, .inl (bF bt))), (m13, .inl (cI, 6, .inl (nF ms))), (m14, .inl (cZ, 6, .inl (zF dn_))), (m15, .inl (cI, 6, .inl (nF ns_))), (m16, .inl (cZ, 6, .inl (zF nd_))), (m17, .inl (cI, 144, .inl vls)), (m18, .inl (cI, 600, .inl ld)), (m19, .inl (cI, 600, .inl lc)), (m20, .inl (cI, 600, .inl lm)), (m21, .inl (cI, 10, .inl mp))] (fun (r : Int32) (w : va_W) => r = nI x ∧ w = [(m0, .inr (10, [.int th, .ref m1, .ref m2, .ref m3, .int (nI n), .int (nI P), .ref m4, .int (nI nn), .ref m5, .ref m6, .ref m7, .ref m8, .ref m9, .int (zI sb), .ref m10, .ref m11, .int al, .ref m12, .int (nI tn), .int (nI zs), .int (nI hp), .int (zI iw), .ref m13, .ref m14, .int (nI nk), .ref m15, .ref m16, .ref m17, .int (nI dy), .int (nI ln), .ref m18, .ref m19, .ref m20, .ref m21])), (m1, .inl (cI, 24, .inl kd)), (m2, .inl (cI, 24, .inl ag)), (m3, .inl (cI, 24, .inl (nF cb))), (m4, .inl (cI, 30, .inl nz)), (m5, .inl (cI, 24, .inl (nF pb))), (m6, .inl (cI, 480, .inl mk)), (m7, .inl (cI, 20, .inl mh)), (m8, .inl (cI, 120, .inl mt)), (m9, .inl (cI, 24, .inl mu)), (m10, .inl (cI, 24, .inl mi)), (m11, .inl (cI, 24, .inl of_)), (m12, .inl (cB, 100, .inl (bF bt))), (m13, .inl (cI, 6, .inl (nF ms))), (m14, .inl (cZ, 6, .inl (zF dn_))), (m15, .inl (cI, 6, .inl (nF ns_))), (m16, .inl (cZ, 6, .inl (zF nd_))), (m17, .inl (cI, 144, .inl vls)), (m18, .inl (cI, 600, .inl ld)), (m19, .inl (cI, 600, .inl lc)), (m20, .inl (cI, 600, .inl lm)), (m21, .inl (cI, 10, .inl mp))]) 0 0 := by
  refine e_M (Qf := fun A => va_Qi (fun (r : Int32) (w : va_W) => r = nI x ∧ w = [(m0, .inr (10, [.int th, .ref m1, .ref m2, .ref m3, .int (nI n), .int (nI P), .ref m4, .int (nI nn), .ref m5, .ref m6, .ref m7, .ref m8, .ref m9, .int (zI sb), .ref m10, .ref m11, .int al, .ref m12, .int (nI tn), .int (nI zs), .int (nI hp), .int (zI iw), .ref m13, .ref m14, .int (nI nk), .ref m15, .ref m16, .ref m17, .int (nI dy), .int (nI ln), .ref m18, .ref m19, .ref m20, .ref m21])), (m1, .inl (cI, 24, .inl kd)), (m2, .inl (cI, 24, .inl ag)), (m3, .inl (cI, 24, .inl (nF cb))), (m4, .inl (cI, 30, .inl nz)), (m5, .inl (cI, 24, .inl (nF pb))), (m6, .inl (cI, 480, .inl mk)), (m7, .inl (cI, 20, .inl mh)), (m8, .inl (cI, 120, .inl mt)), (m9, .inl (cI, 24, .inl mu)), (m10, .inl (cI, 24, .inl mi)), (m11, .inl (cI, 24, .inl of_)), (m12, .inl (cB, 100, .inl (bF bt))), (m13, .inl (cI, 6, .inl (nF ms))), (m14, .inl (cZ, 6, .inl (zF dn_))), (m15, .inl (cI, 6, .inl (nF ns_))), (m16, .inl (cZ, 6, .inl (zF nd_))), (m17, .inl (cI, 144, .inl vls)), (m18, .inl (cI, 600, .inl ld)), (m19, .inl (cI, 600, .inl lc)), (m20, .inl (cI, 600, .inl lm)), (m21, .inl (cI, 10, .inl mp))]) (Bw D A) A) (cc := cX10_rankOf) (maxL := 6) (ret := (some .int)) (by decide) rfl (Nat.le_of_ble_eq_true rfl) ?_
  intro p e s m args below meth c ls A Q H locs hx hb hr hml hts hown hlk hnm hc hw hl hQ
  have hl : lv_has ls 6 [(0, .ref m0), (1, .int kind), (2, .int kk)] := hl
  have in_10 : ∀ w ∈ u_ws RX10 TX10 34, w ∈ wsX10_rankOf := fun _ h => List.mem_cons_of_mem _ (List.mem_append_right _ h)
  have lk_0 := hts (.fieldLink RX10 89 "PloughingMatchModel" "men" "I") (List.mem_of_getElem? (i := 1) rfl)
  have lk_1 := hts (.fieldLink RX10 9 "PloughingMatchModel" "kinds" "[I") (List.mem_of_getElem? (i := 2) rfl)
  refine lv_iconst (v := nI 0) hx hb dX10_rankOf_0 (by decide) ?_
  refine lv_istore_n (lv' := [(3, .int (nI 0)), (0, .ref m0), (1, .int kind), (2, .int kk)]) hx hb dX10_rankOf_1 rfl hl (by decide) rfl (fun ls hl => ?_)
  have key2 : ∀ (fuel : Nat) (y : Nat), y ≤ n → rkO (fun a b => aha (fun z => vlC mk P ag pb mi of_ al a (ms z)) (fun z => vlC mk P ag pb mi of_ al b (ms z)) (fun z => !dn_ z) a b nk 0) kd kind kk n n 0 = rkO (fun a b => aha (fun z => vlC mk P ag pb mi of_ al a (ms z)) (fun z => vlC mk P ag pb mi of_ al b (ms z)) (fun z => !dn_ z) a b nk 0) kd kind kk n (n - y) y → n - y < fuel → ∀ (H : Heap) (locs : List Loc) (ls : Array Slot), Wd D A s H locs [(m0, .inr (10, [.int th, .ref m1, .ref m2, .ref m3, .int (nI n), .int (nI P), .ref m4, .int (nI nn), .ref m5, .ref m6, .ref m7, .ref m8, .ref m9, .int (zI sb), .ref m10, .ref m11, .int al, .ref m12, .int (nI tn), .int (nI zs), .int (nI hp), .int (zI iw), .ref m13, .ref m14, .int (nI nk), .ref m15, .ref m16, .ref m17, .int (nI dy), .int (nI ln), .ref m18, .ref m19, .ref m20, .ref m21])), (m1, .inl (cI, 24, .inl kd)), (m2, .inl (cI, 24, .inl ag)), (m3, .inl (cI, 24, .inl (nF cb))), (m4, .inl (cI, 30, .inl nz)), (m5, .inl (cI, 24, .inl (nF pb))), (m6, .inl (cI, 480, .inl mk)), (m7, .inl (cI, 20, .inl mh)), (m8, .inl (cI, 120, .inl mt)), (m9, .inl (cI, 24, .inl mu)), (m10, .inl (cI, 24, .inl mi)), (m11, .inl (cI, 24, .inl of_)), (m12, .inl (cB, 100, .inl (bF bt))), (m13, .inl (cI, 6, .inl (nF ms))), (m14, .inl (cZ, 6, .inl (zF dn_))), (m15, .inl (cI, 6, .inl (nF ns_))), (m16, .inl (cZ, 6, .inl (zF nd_))), (m17, .inl (cI, 144, .inl vls)), (m18, .inl (cI, 600, .inl ld)), (m19, .inl (cI, 600, .inl lc)), (m20, .inl (cI, 600, .inl lm)), (m21, .inl (cI, 10, .inl mp))] → lv_has ls 6 [(0, .ref m0), (1, .int kind), (2, .int kk), (3, .int (nI y))] → W p l e rm_c_X10_rankOf s m args below meth c H locs 0 0 Q (F0 m 2 ls []) := by
    intro fuel
    induction fuel with
    | zero => intro y hy eq1 hfu; exact absurd hfu (Nat.not_lt_zero _)
    | succ fuel ih =>
      intro y hy eq1 hfu H locs ls hw hl
      have ih2 := ih
      refine lv_iload_n hx hb dX10_rankOf_2 rfl (lv_at hl 3 rfl) ?_
      refine lv_aload_n hx hb dX10_rankOf_3 rfl (lv_at hl 0 rfl) ?_
      refine w_get (C := RX10) (T := TX10) (N := 34) (ci := 10) hx hb hts in_10 hown hc hw 0 4 rfl rfl (by decide) lk_0 rfl dX10_rankOf_4 ?_
      refine wb_icmp_ge (tgt := 95) hx hb (by omega) (by omega) dX10_rankOf_7 (by decide) (fun c_1 => ?_) (fun c_1 => ?_)
      · skip
        refine lv_iconst (v := (-1)) hx hb dX10_rankOf_95 (by decide) ?_
        exact absurd hr9 (by rw [eq1, show n - y = 0 by omega]; simp [rkO])
      · skip
        refine lv_aload_n hx hb dX10_rankOf_10 rfl (lv_at hl 0 rfl) ?_
        refine w_get (C := RX10) (T := TX10) (N := 34) (ci := 10) hx hb hts in_10 hown hc hw 0 1 rfl rfl (by decide) lk_1 rfl dX10_rankOf_11 ?_
        refine lv_iload_n hx hb dX10_rankOf_14 rfl (lv_at hl 3 rfl) ?_
        refine w_iald hx hb hc hw 1 rfl rfl (i := y) (by omega) (by decide) dX10_rankOf_15 ?_
        refine lv_iload_n hx hb dX10_rankOf_16 rfl (lv_at hl 1 rfl) ?_
        refine lv_icmp_eq (tgt := 23) hx hb dX10_rankOf_17 (by decide) (fun c_2 => ?_) (fun c_2 => ?_)
        · skip
          have hkd8 := c_2
          refine lv_iconst (v := nI 0) hx hb dX10_rankOf_23 (by decide) ?_
          refine lv_istore (lv' := [(4, .int (nI 0)), (0, .ref m0), (1, .int kind), (2, .int kk), (3, .int (nI y))]) hx hb dX10_rankOf_24 hl (by decide) rfl (fun ls hl => ?_)
          refine lv_iconst (v := nI 0) hx hb dX10_rankOf_26 (by decide) ?_
          refine lv_istore (lv' := [(5, .int (nI 0)), (4, .int (nI 0)), (0, .ref m0), (1, .int kind), (2, .int kk), (3, .int (nI y))]) hx hb dX10_rankOf_27 hl (by decide) rfl (fun ls hl => ?_)
          have key29 : ∀ (fuel : Nat) (o : Nat) (d9 : Nat), o ≤ n → d9 = cnA (fun a b => aha (fun z => vlC mk P ag pb mi of_ al a (ms z)) (fun z => vlC mk P ag pb mi of_ al b (ms z)) (fun z => !dn_ z) a b nk 0) kd kind y o → n - o < fuel → ∀ (H : Heap) (locs : List Loc) (ls : Array Slot), Wd D A s H locs [(m0, .inr (10, [.int th, .ref m1, .ref m2, .ref m3, .int (nI n), .int (nI P), .ref m4, .int (nI nn), .ref m5, .ref m6, .ref m7, .ref m8, .ref m9, .int (zI sb), .ref m10, .ref m11, .int al, .ref m12, .int (nI tn), .int (nI zs), .int (nI hp), .int (zI iw), .ref m13, .ref m14, .int (nI nk), .ref m15, .ref m16, .ref m17, .int (nI dy), .int (nI ln), .ref m18, .ref m19, .ref m20, .ref m21])), (m1, .inl (cI, 24, .inl kd)), (m2, .inl (cI, 24, .inl ag)), (m3, .inl (cI, 24, .inl (nF cb))), (m4, .inl (cI, 30, .inl nz)), (m5, .inl (cI, 24, .inl (nF pb))), (m6, .inl (cI, 480, .inl mk)), (m7, .inl (cI, 20, .inl mh)), (m8, .inl (cI, 120, .inl mt)), (m9, .inl (cI, 24, .inl mu)), (m10, .inl (cI, 24, .inl mi)), (m11, .inl (cI, 24, .inl of_)), (m12, .inl (cB, 100, .inl (bF bt))), (m13, .inl (cI, 6, .inl (nF ms))), (m14, .inl (cZ, 6, .inl (zF dn_))), (m15, .inl (cI, 6, .inl (nF ns_))), (m16, .inl (cZ, 6, .inl (zF nd_))), (m17, .inl (cI, 144, .inl vls)), (m18, .inl (cI, 600, .inl ld)), (m19, .inl (cI, 600, .inl lc)), (m20, .inl (cI, 600, .inl lm)), (m21, .inl (cI, 10, .inl mp))] → lv_has ls 6 [(0, .ref m0), (1, .int kind), (2, .int kk), (3, .int (nI y)), (4, .int (nI d9)), (5, .int (nI o))] → W p l e rm_c_X10_rankOf s m args below meth c H locs 0 0 Q (F0 m 29 ls []) := by
            intro fuel
            induction fuel with
            | zero => intro o d9 ho eq2 hfu; exact absurd hfu (Nat.not_lt_zero _)
            | succ fuel ih =>
              intro o d9 ho eq2 hfu H locs ls hw hl
              have ih29 := ih
              refine lv_iload hx hb dX10_rankOf_29 (lv_at hl 5 rfl) ?_
              refine lv_aload_n hx hb dX10_rankOf_31 rfl (lv_at hl 0 rfl) ?_
              refine w_get (C := RX10) (T := TX10) (N := 34) (ci := 10) hx hb hts in_10 hown hc hw 0 4 rfl rfl (by decide) lk_0 rfl dX10_rankOf_32 ?_
              refine wb_icmp_ge (tgt := 81) hx hb (by omega) (by omega) dX10_rankOf_35 (by decide) (fun c_3 => ?_) (fun c_3 => ?_)
              · skip
                refine lv_iload hx hb dX10_rankOf_81 (lv_at hl 4 rfl) ?_
                refine lv_iload_n hx hb dX10_rankOf_83 rfl (lv_at hl 2 rfl) ?_
                refine lv_icmp_ne (tgt := 89) hx hb dX10_rankOf_84 (by decide) (fun c_4 => ?_) (fun c_4 => ?_)
                · skip
                  have hck9 := c_4
                  refine wn_iinc (a := y) (d := 1) (lv' := [(3, .int (nI (y + 1))), (0, .ref m0), (1, .int kind), (2, .int kk), (4, .int (nI d9)), (5, .int (nI o))]) hx hb dX10_rankOf_89 hl (k := 3) rfl (by decide) rfl (fun ls hl => ?_)
                  refine lv_goto (tgt := 2) hx hb dX10_rankOf_92 (by decide) ?_
                  exact ih2 (y + 1) (by omega) (by rw [eq1, rkO_s (by omega), if_neg (by rintro ⟨h8, h9⟩; first | exact hkd9 h8 | exact hck9 (by rw [eq2, show o = n by omega]; exact h9))]) (by omega) _ _ _ hw (lv_sub hl [1, 2, 3, 0] rfl)
                · skip
                  have hck8 := c_4
                  refine lv_iload_n hx hb dX10_rankOf_87 rfl (lv_at hl 3 rfl) ?_
                  subst hQ
                  exact r_i hx hb hr rfl hlk hw ⟨(by have h8 : some x = some y := (hr9.symm.trans (by rw [eq1, rkO_s (by omega), if_pos ⟨hkd8, by rw [← hck8, eq2, show o = n by omega]⟩])); cases h8; rfl), rfl⟩ dX10_rankOf_88
              · skip
                refine lv_iload hx hb dX10_rankOf_38 (lv_at hl 4 rfl) ?_
                refine lv_iload hx hb dX10_rankOf_40 (lv_at hl 5 rfl) ?_
                refine lv_iload_n hx hb dX10_rankOf_42 rfl (lv_at hl 3 rfl) ?_
                refine wb_icmp_eq (tgt := 71) hx hb (by omega) (by omega) dX10_rankOf_43 (by decide) (fun c_5 => ?_) (fun c_5 => ?_)
                · skip
                  refine lv_iconst (v := nI 0) hx hb dX10_rankOf_71 (by decide) ?_
                  refine wn_iadd hx hb dX10_rankOf_72 ?_
                  refine lv_istore (lv' := [(4, .int (nI (d9 + 0))), (0, .ref m0), (1, .int kind), (2, .int kk), (3, .int (nI y)), (5, .int (nI o))]) hx hb dX10_rankOf_73 hl (by decide) rfl (fun ls hl => ?_)
                  refine wn_iinc (a := o) (d := 1) (lv' := [(5, .int (nI (o + 1))), (4, .int (nI (d9 + 0))), (0, .ref m0), (1, .int kind), (2, .int kk), (3, .int (nI y))]) hx hb dX10_rankOf_75 hl (k := 5) rfl (by decide) rfl (fun ls hl => ?_)
                  refine lv_goto (tgt := 29) hx hb dX10_rankOf_78 (by decide) ?_
                  exact ih29 (o + 1) (d9 + 0) (by omega) (by simp only [cnA]; first | (rw [if_pos ⟨by assumption, by assumption, by assumption⟩, eq2]) | (rw [if_neg (by rintro ⟨h7, h8, h9⟩; first | exact h7 (by assumption) | exact absurd h8 (by assumption) | exact absurd (h9.symm.trans hah9) (by decide)), eq2])) (by omega) _ _ _ hw (lv_sub hl [2, 3, 4, 5, 1, 0] rfl)
                · skip
                  refine lv_aload_n hx hb dX10_rankOf_46 rfl (lv_at hl 0 rfl) ?_
                  refine w_get (C := RX10) (T := TX10) (N := 34) (ci := 10) hx hb hts in_10 hown hc hw 0 1 rfl rfl (by decide) lk_1 rfl dX10_rankOf_47 ?_
                  refine lv_iload hx hb dX10_rankOf_50 (lv_at hl 5 rfl) ?_
                  refine w_iald hx hb hc hw 1 rfl rfl (i := o) (by omega) (by decide) dX10_rankOf_52 ?_
                  refine lv_iload_n hx hb dX10_rankOf_53 rfl (lv_at hl 1 rfl) ?_
                  refine lv_icmp_ne (tgt := 71) hx hb dX10_rankOf_54 (by decide) (fun c_6 => ?_) (fun c_6 => ?_)
                  · skip
                    refine lv_iconst (v := nI 0) hx hb dX10_rankOf_71 (by decide) ?_
                    refine wn_iadd hx hb dX10_rankOf_72 ?_
                    refine lv_istore (lv' := [(4, .int (nI (d9 + 0))), (0, .ref m0), (1, .int kind), (2, .int kk), (3, .int (nI y)), (5, .int (nI o))]) hx hb dX10_rankOf_73 hl (by decide) rfl (fun ls hl => ?_)
                    refine wn_iinc (a := o) (d := 1) (lv' := [(5, .int (nI (o + 1))), (4, .int (nI (d9 + 0))), (0, .ref m0), (1, .int kind), (2, .int kk), (3, .int (nI y))]) hx hb dX10_rankOf_75 hl (k := 5) rfl (by decide) rfl (fun ls hl => ?_)
                    refine lv_goto (tgt := 29) hx hb dX10_rankOf_78 (by decide) ?_
                    exact ih29 (o + 1) (d9 + 0) (by omega) (by simp only [cnA]; first | (rw [if_pos ⟨by assumption, by assumption, by assumption⟩, eq2]) | (rw [if_neg (by rintro ⟨h7, h8, h9⟩; first | exact h7 (by assumption) | exact absurd h8 (by assumption) | exact absurd (h9.symm.trans hah9) (by decide)), eq2])) (by omega) _ _ _ hw (lv_sub hl [2, 3, 4, 5, 1, 0] rfl)
                  · skip
                    refine lv_aload_n hx hb dX10_rankOf_57 rfl (lv_at hl 0 rfl) ?_
                    refine lv_iload hx hb dX10_rankOf_58 (lv_at hl 5 rfl) ?_
                    refine lv_iload_n hx hb dX10_rankOf_60 rfl (lv_at hl 3 rfl) ?_
                    refine k_i (wr := []) (j_V ⟨hx, hb, hml, hown, hts⟩ (c_X10_isAhead l D cI cZ cB cJ b0 adK adV m0 m1 m2 m3 m4 m5 m6 m7 m8 m9 m10 m11 m12 m13 m14 m15 m16 m17 m18 m19 m20 m21 th n P nn sb al tn zs hp iw nk dy ln kd ag cb nz pb mk mh mt mu mi of_ bt ms dn_ ns_ nd_ vls ld lc lm mp o y (by omega) (by omega) hvs (by omega) (by omega) H.size) (cwV 2 hts gX10_rankOf_X10_isAhead rfl rfl rfl (by decide +kernel) ⟨by decide, by decide⟩) hc hw [0, 1, 2, 3, 4, 5, 6, 7, 8, 9, 10, 11, 12, 13, 14, 15, 16, 17, 18, 19, 20, 21] rfl rfl 10 0 rfl rfl rfl rfl hl.1 rfl (Nat.le_of_ble_eq_true rfl) dX10_rankOf_61 ⟨by decide, by decide⟩) hc hw [0, 1, 2, 3, 4, 5, 6, 7, 8, 9, 10, 11, 12, 13, 14, 15, 16, 17, 18, 19, 20, 21] [] rfl rfl (by decide) (by decide) (fun r w H locs hq hw => ?_)
                    obtain ⟨rfl, rfl⟩ := hq
                    have hw : Wd D A s H locs [(m0, .inr (10, [.int th, .ref m1, .ref m2, .ref m3, .int (nI n), .int (nI P), .ref m4, .int (nI nn), .ref m5, .ref m6, .ref m7, .ref m8, .ref m9, .int (zI sb), .ref m10, .ref m11, .int al, .ref m12, .int (nI tn), .int (nI zs), .int (nI hp), .int (zI iw), .ref m13, .ref m14, .int (nI nk), .ref m15, .ref m16, .ref m17, .int (nI dy), .int (nI ln), .ref m18, .ref m19, .ref m20, .ref m21])), (m1, .inl (cI, 24, .inl kd)), (m2, .inl (cI, 24, .inl ag)), (m3, .inl (cI, 24, .inl (nF cb))), (m4, .inl (cI, 30, .inl nz)), (m5, .inl (cI, 24, .inl (nF pb))), (m6, .inl (cI, 480, .inl mk)), (m7, .inl (cI, 20, .inl mh)), (m8, .inl (cI, 120, .inl mt)), (m9, .inl (cI, 24, .inl mu)), (m10, .inl (cI, 24, .inl mi)), (m11, .inl (cI, 24, .inl of_)), (m12, .inl (cB, 100, .inl (bF bt))), (m13, .inl (cI, 6, .inl (nF ms))), (m14, .inl (cZ, 6, .inl (zF dn_))), (m15, .inl (cI, 6, .inl (nF ns_))), (m16, .inl (cZ, 6, .inl (zF nd_))), (m17, .inl (cI, 144, .inl vls)), (m18, .inl (cI, 600, .inl ld)), (m19, .inl (cI, 600, .inl lc)), (m20, .inl (cI, 600, .inl lm)), (m21, .inl (cI, 10, .inl mp))] := hw
                    refine wz_if_eq (tgt := 71) hx hb dX10_rankOf_64 (by decide) (fun c_7 => ?_) (fun c_7 => ?_)
                    · skip
                      have hah9 := c_7
                      refine lv_iconst (v := nI 0) hx hb dX10_rankOf_71 (by decide) ?_
                      refine wn_iadd hx hb dX10_rankOf_72 ?_
                      refine lv_istore (lv' := [(4, .int (nI (d9 + 0))), (0, .ref m0), (1, .int kind), (2, .int kk), (3, .int (nI y)), (5, .int (nI o))]) hx hb dX10_rankOf_73 hl (by decide) rfl (fun ls hl => ?_)
                      refine wn_iinc (a := o) (d := 1) (lv' := [(5, .int (nI (o + 1))), (4, .int (nI (d9 + 0))), (0, .ref m0), (1, .int kind), (2, .int kk), (3, .int (nI y))]) hx hb dX10_rankOf_75 hl (k := 5) rfl (by decide) rfl (fun ls hl => ?_)
                      refine lv_goto (tgt := 29) hx hb dX10_rankOf_78 (by decide) ?_
                      exact ih29 (o + 1) (d9 + 0) (by omega) (by simp only [cnA]; first | (rw [if_pos ⟨by assumption, by assumption, by assumption⟩, eq2]) | (rw [if_neg (by rintro ⟨h7, h8, h9⟩; first | exact h7 (by assumption) | exact absurd h8 (by assumption) | exact absurd (h9.symm.trans hah9) (by decide)), eq2])) (by omega) _ _ _ hw (lv_sub hl [2, 3, 4, 5, 1, 0] rfl)
                    · skip
                      refine lv_iconst (v := nI 1) hx hb dX10_rankOf_67 (by decide) ?_
                      refine lv_goto (tgt := 72) hx hb dX10_rankOf_68 (by decide) ?_
                      refine wn_iadd hx hb dX10_rankOf_72 ?_
                      refine lv_istore (lv' := [(4, .int (nI (d9 + 1))), (0, .ref m0), (1, .int kind), (2, .int kk), (3, .int (nI y)), (5, .int (nI o))]) hx hb dX10_rankOf_73 hl (by decide) rfl (fun ls hl => ?_)
                      refine wn_iinc (a := o) (d := 1) (lv' := [(5, .int (nI (o + 1))), (4, .int (nI (d9 + 1))), (0, .ref m0), (1, .int kind), (2, .int kk), (3, .int (nI y))]) hx hb dX10_rankOf_75 hl (k := 5) rfl (by decide) rfl (fun ls hl => ?_)
                      refine lv_goto (tgt := 29) hx hb dX10_rankOf_78 (by decide) ?_
                      exact ih29 (o + 1) (d9 + 1) (by omega) (by simp only [cnA]; first | (rw [if_pos ⟨by assumption, by assumption, by assumption⟩, eq2]) | (rw [if_neg (by rintro ⟨h7, h8, h9⟩; first | exact h7 (by assumption) | exact absurd h8 (by assumption) | exact absurd (h9.symm.trans hah9) (by decide)), eq2])) (by omega) _ _ _ hw (lv_sub hl [2, 3, 4, 5, 1, 0] rfl)
          exact key29 (n - 0 + 1) 0 0 (by omega) rfl (Nat.lt_succ_self _) _ _ _ hw (lv_sub hl [2, 3, 4, 5, 1, 0] rfl)
        · skip
          have hkd9 := c_2
          refine lv_goto (tgt := 89) hx hb dX10_rankOf_20 (by decide) ?_
          refine wn_iinc (a := y) (d := 1) (lv' := [(3, .int (nI (y + 1))), (0, .ref m0), (1, .int kind), (2, .int kk)]) hx hb dX10_rankOf_89 hl (k := 3) rfl (by decide) rfl (fun ls hl => ?_)
          refine lv_goto (tgt := 2) hx hb dX10_rankOf_92 (by decide) ?_
          exact ih2 (y + 1) (by omega) (by rw [eq1, rkO_s (by omega), if_neg (by rintro ⟨h8, h9⟩; first | exact hkd9 h8 | exact hck9 (by rw [eq2, show o = n by omega]; exact h9))]) (by omega) _ _ _ hw (lv_sub hl [1, 2, 3, 0] rfl)
  exact key2 (n - 0 + 1) 0 (by omega) rfl (Nat.lt_succ_self _) _ _ _ hw (lv_sub hl [1, 2, 3, 0] rfl)
def rm_c_X10_rankOf_no : Room := { frames := 1, cells := 0, slots := 0, locals := 25 }
set_option maxHeartbeats 4000000 in
set_option maxRecDepth 100000 in
theorem c_X10_rankOf_no (l : Launch) (D : va_G) (cI cZ cB cJ : ClassId) (b0 : Nat) (adK adV : Nat → Nat) (m0 m1 m2 m3 m4 m5 m6 m7 m8 m9 m10 m11 m12 m13 m14 m15 m16 m17 m18 m19 m20 m21 : Nat) (th : Int32) (n : Nat) (P : Nat) (nn : Nat) (sb : Bool) (al : Int32) (tn : Nat) (zs : Nat) (hp : Nat) (iw : Bool) (nk : Nat) (dy : Nat) (ln : Nat) (kd : Nat → Int32) (ag : Nat → Int32) (cb : Nat → Nat) (nz : Nat → Int32) (pb : Nat → Nat) (mk : Nat → Int32) (mh : Nat → Int32) (mt : Nat → Int32) (mu : Nat → Int32) (mi : Nat → Int32) (of_ : Nat → Int32) (bt : Nat → Nat) (ms : Nat → Nat) (dn_ : Nat → Bool) (ns_ : Nat → Nat) (nd_ : Nat → Bool) (vls : Nat → Int32) (ld : Nat → Int32) (lc : Nat → Int32) (lm : Nat → Int32) (mp : Nat → Int32) (kind : Int32) (kk : Int32) (hn24 : n ≤ 24) (hnk : nk ≤ 6) (hvs : (∀ x, x < n → ∀ z, z < nk → vls (6 * x + z) = vlC mk P ag pb mi of_ al x (ms z))) (hr9 : rkO (fun a b => aha (fun z => vlC mk P ag pb mi of_ al a (ms z)) (fun z => vlC mk P ag pb mi of_ al b (ms z)) (fun z => !dn_ z) a b nk 0) kd kind kk n n 0 = none) : Mi l yX10_rankOf wsX10_rankOf rm_c_X10_rankOf_no D (TYs cI cZ cB cJ) b0 adK adV [.ref m0, .int kind, .int kk] [(m0, .inr (10, [.int th, .ref m1, .ref m2, .ref m3, .int (nI n), .int (nI P), .ref m4, .int (nI nn), .ref m5, .ref m6, .ref m7, .ref m8, .ref m9, .int (zI sb), .ref m10, .ref m11, .int al, .ref m12, .int (nI tn), .int (nI zs), .int (nI hp), .int (zI iw), .ref m13, .ref m14, .int (nI nk), .ref m15, .ref m16, .ref m17, .int (nI dy), .int (nI ln), .ref m18, .ref m19, .ref m20, .ref m21])), (m1, .inl (cI, 24, .inl kd)), (m2, .inl (cI, 24, .inl ag)), (m3, .inl (cI, 24, .inl (nF cb))), (m4, .inl (cI, 30, .inl nz)), (m5, .inl (cI, 24, .inl (nF pb))), (m6, .inl (cI, 480, .inl mk)), (m7, .inl (cI, 20, .inl mh)), (m8, .inl (cI, 120, .inl mt)), (m9, .inl (cI, 24, .inl mu)), (m10, .inl (cI, 24, .inl mi)), (m11, .inl (cI, 24, .inl of_)), (m12, .inl (cB, 100, .inl (bF bt))), (m13, .inl (cI, 6, .inl (nF ms))), (m14, .inl (cZ, 6, .inl (zF dn_))), (m15, .inl (cI, 6, .inl (nF ns_))), (m16, .inl (cZ, 6, .inl (zF nd_))), (m17, .inl (cI, 144, .inl vls)), (m18, .inl (cI, 600, .inl ld)), (m19, .inl (cI, 600, .inl lc)), (m20, .inl (cI, 600, .inl lm)), (m21, .inl (cI, 10, .inl mp))] (fun (r : Int32) (w : va_W) => r = (-1) ∧ w = [(m0, .inr (10, [.int th, .ref m1, .ref m2, .ref m3, .int (nI n), .int (nI P), .ref m4, .int (nI nn), .ref m5, .ref m6, .ref m7, .ref m8, .ref m9, .int (zI sb), .ref m10, .ref m11, .int al, .ref m12, .int (nI tn), .int (nI zs), .int (nI hp), .int (zI iw), .ref m13, .ref m14, .int (nI nk), .ref m15, .ref m16, .ref m17, .int (nI dy), .int (nI ln), .ref m18, .ref m19, .ref m20, .ref m21])), (m1, .inl (cI, 24, .inl kd)), (m2, .inl (cI, 24, .inl ag)), (m3, .inl (cI, 24, .inl (nF cb))), (m4, .inl (cI, 30, .inl nz)), (m5, .inl (cI, 24, .inl (nF pb))), (m6, .inl (cI, 480, .inl mk)), (m7, .inl (cI, 20, .inl mh)), (m8, .inl (cI, 120, .inl mt)), (m9, .inl (cI, 24, .inl mu)), (m10, .inl (cI, 24, .inl mi)), (m11, .inl (cI, 24, .inl of_)), (m12, .inl (cB, 100, .inl (bF bt))), (m13, .inl (cI, 6, .inl (nF ms))), (m14, .inl (cZ, 6, .inl (zF dn_))), (m15, .inl (cI, 6, .inl (nF ns_))), (m16, .inl (cZ, 6, .inl (zF nd_))), (m17, .inl (cI, 144, .inl vls)), (m18, .inl (cI, 600, .inl ld)), (m19, .inl (cI, 600, .inl lc)), (m20, .inl (cI, 600, .inl lm)), (m21, .inl (cI, 10, .inl mp))]) 0 0 := by
  refine e_M (Qf := fun A => va_Qi (fun (r : Int32) (w : va_W) => r = (-1) ∧ w = [(m0, .inr (10, [.int th, .ref m1, .ref m2, .ref m3, .int (nI n), .int (nI P), .ref m4, .int (nI nn), .ref m5, .ref m6, .ref m7, .ref m8, .ref m9, .int (zI sb), .ref m10, .ref m11, .int al, .ref m12, .int (nI tn), .int (nI zs), .int (nI hp), .int (zI iw), .ref m13, .ref m14, .int (nI nk), .ref m15, .ref m16, .ref m17, .int (nI dy), .int (nI ln), .ref m18, .ref m19, .ref m20, .ref m21])), (m1, .inl (cI, 24, .inl kd)), (m2, .inl (cI, 24, .inl ag)), (m3, .inl (cI, 24, .inl (nF cb))), (m4, .inl (cI, 30, .inl nz)), (m5, .inl (cI, 24, .inl (nF pb))), (m6, .inl (cI, 480, .inl mk)), (m7, .inl (cI, 20, .inl mh)), (m8, .inl (cI, 120, .inl mt)), (m9, .inl (cI, 24, .inl mu)), (m10, .inl (cI, 24, .inl mi)), (m11, .inl (cI, 24, .inl of_)), (m12, .inl (cB, 100, .inl (bF bt))), (m13, .inl (cI, 6, .inl (nF ms))), (m14, .inl (cZ, 6, .inl (zF dn_))), (m15, .inl (cI, 6, .inl (nF ns_))), (m16, .inl (cZ, 6, .inl (zF nd_))), (m17, .inl (cI, 144, .inl vls)), (m18, .inl (cI, 600, .inl ld)), (m19, .inl (cI, 600, .inl lc)), (m20, .inl (cI, 600, .inl lm)), (m21, .inl (cI, 10, .inl mp))]) (Bw D A) A) (cc := cX10_rankOf) (maxL := 6) (ret := (some .int)) (by decide) rfl (Nat.le_of_ble_eq_true rfl) ?_
  intro p e s m args below meth c ls A Q H locs hx hb hr hml hts hown hlk hnm hc hw hl hQ
  have hl : lv_has ls 6 [(0, .ref m0), (1, .int kind), (2, .int kk)] := hl
  have in_10 : ∀ w ∈ u_ws RX10 TX10 34, w ∈ wsX10_rankOf := fun _ h => List.mem_cons_of_mem _ (List.mem_append_right _ h)
  have lk_0 := hts (.fieldLink RX10 89 "PloughingMatchModel" "men" "I") (List.mem_of_getElem? (i := 1) rfl)
  have lk_1 := hts (.fieldLink RX10 9 "PloughingMatchModel" "kinds" "[I") (List.mem_of_getElem? (i := 2) rfl)
  refine lv_iconst (v := nI 0) hx hb dX10_rankOf_0 (by decide) ?_
  refine lv_istore_n (lv' := [(3, .int (nI 0)), (0, .ref m0), (1, .int kind), (2, .int kk)]) hx hb dX10_rankOf_1 rfl hl (by decide) rfl (fun ls hl => ?_)
  have key2 : ∀ (fuel : Nat) (y : Nat), y ≤ n → rkO (fun a b => aha (fun z => vlC mk P ag pb mi of_ al a (ms z)) (fun z => vlC mk P ag pb mi of_ al b (ms z)) (fun z => !dn_ z) a b nk 0) kd kind kk n n 0 = rkO (fun a b => aha (fun z => vlC mk P ag pb mi of_ al a (ms z)) (fun z => vlC mk P ag pb mi of_ al b (ms z)) (fun z => !dn_ z) a b nk 0) kd kind kk n (n - y) y → n - y < fuel → ∀ (H : Heap) (locs : List Loc) (ls : Array Slot), Wd D A s H locs [(m0, .inr (10, [.int th, .ref m1, .ref m2, .ref m3, .int (nI n), .int (nI P), .ref m4, .int (nI nn), .ref m5, .ref m6, .ref m7, .ref m8, .ref m9, .int (zI sb), .ref m10, .ref m11, .int al, .ref m12, .int (nI tn), .int (nI zs), .int (nI hp), .int (zI iw), .ref m13, .ref m14, .int (nI nk), .ref m15, .ref m16, .ref m17, .int (nI dy), .int (nI ln), .ref m18, .ref m19, .ref m20, .ref m21])), (m1, .inl (cI, 24, .inl kd)), (m2, .inl (cI, 24, .inl ag)), (m3, .inl (cI, 24, .inl (nF cb))), (m4, .inl (cI, 30, .inl nz)), (m5, .inl (cI, 24, .inl (nF pb))), (m6, .inl (cI, 480, .inl mk)), (m7, .inl (cI, 20, .inl mh)), (m8, .inl (cI, 120, .inl mt)), (m9, .inl (cI, 24, .inl mu)), (m10, .inl (cI, 24, .inl mi)), (m11, .inl (cI, 24, .inl of_)), (m12, .inl (cB, 100, .inl (bF bt))), (m13, .inl (cI, 6, .inl (nF ms))), (m14, .inl (cZ, 6, .inl (zF dn_))), (m15, .inl (cI, 6, .inl (nF ns_))), (m16, .inl (cZ, 6, .inl (zF nd_))), (m17, .inl (cI, 144, .inl vls)), (m18, .inl (cI, 600, .inl ld)), (m19, .inl (cI, 600, .inl lc)), (m20, .inl (cI, 600, .inl lm)), (m21, .inl (cI, 10, .inl mp))] → lv_has ls 6 [(0, .ref m0), (1, .int kind), (2, .int kk), (3, .int (nI y))] → W p l e rm_c_X10_rankOf_no s m args below meth c H locs 0 0 Q (F0 m 2 ls []) := by
    intro fuel
    induction fuel with
    | zero => intro y hy eq1 hfu; exact absurd hfu (Nat.not_lt_zero _)
    | succ fuel ih =>
      intro y hy eq1 hfu H locs ls hw hl
      have ih2 := ih
      refine lv_iload_n hx hb dX10_rankOf_2 rfl (lv_at hl 3 rfl) ?_
      refine lv_aload_n hx hb dX10_rankOf_3 rfl (lv_at hl 0 rfl) ?_
      refine w_get (C := RX10) (T := TX10) (N := 34) (ci := 10) hx hb hts in_10 hown hc hw 0 4 rfl rfl (by decide) lk_0 rfl dX10_rankOf_4 ?_
      refine wb_icmp_ge (tgt := 95) hx hb (by omega) (by omega) dX10_rankOf_7 (by decide) (fun c_1 => ?_) (fun c_1 => ?_)
      · skip
        refine lv_iconst (v := (-1)) hx hb dX10_rankOf_95 (by decide) ?_
        subst hQ
        exact r_i hx hb hr rfl hlk hw ⟨rfl, rfl⟩ dX10_rankOf_96
      · skip
        refine lv_aload_n hx hb dX10_rankOf_10 rfl (lv_at hl 0 rfl) ?_
        refine w_get (C := RX10) (T := TX10) (N := 34) (ci := 10) hx hb hts in_10 hown hc hw 0 1 rfl rfl (by decide) lk_1 rfl dX10_rankOf_11 ?_
        refine lv_iload_n hx hb dX10_rankOf_14 rfl (lv_at hl 3 rfl) ?_
        refine w_iald hx hb hc hw 1 rfl rfl (i := y) (by omega) (by decide) dX10_rankOf_15 ?_
        refine lv_iload_n hx hb dX10_rankOf_16 rfl (lv_at hl 1 rfl) ?_
        refine lv_icmp_eq (tgt := 23) hx hb dX10_rankOf_17 (by decide) (fun c_2 => ?_) (fun c_2 => ?_)
        · skip
          have hkd8 := c_2
          refine lv_iconst (v := nI 0) hx hb dX10_rankOf_23 (by decide) ?_
          refine lv_istore (lv' := [(4, .int (nI 0)), (0, .ref m0), (1, .int kind), (2, .int kk), (3, .int (nI y))]) hx hb dX10_rankOf_24 hl (by decide) rfl (fun ls hl => ?_)
          refine lv_iconst (v := nI 0) hx hb dX10_rankOf_26 (by decide) ?_
          refine lv_istore (lv' := [(5, .int (nI 0)), (4, .int (nI 0)), (0, .ref m0), (1, .int kind), (2, .int kk), (3, .int (nI y))]) hx hb dX10_rankOf_27 hl (by decide) rfl (fun ls hl => ?_)
          have key29 : ∀ (fuel : Nat) (o : Nat) (d9 : Nat), o ≤ n → d9 = cnA (fun a b => aha (fun z => vlC mk P ag pb mi of_ al a (ms z)) (fun z => vlC mk P ag pb mi of_ al b (ms z)) (fun z => !dn_ z) a b nk 0) kd kind y o → n - o < fuel → ∀ (H : Heap) (locs : List Loc) (ls : Array Slot), Wd D A s H locs [(m0, .inr (10, [.int th, .ref m1, .ref m2, .ref m3, .int (nI n), .int (nI P), .ref m4, .int (nI nn), .ref m5, .ref m6, .ref m7, .ref m8, .ref m9, .int (zI sb), .ref m10, .ref m11, .int al, .ref m12, .int (nI tn), .int (nI zs), .int (nI hp), .int (zI iw), .ref m13, .ref m14, .int (nI nk), .ref m15, .ref m16, .ref m17, .int (nI dy), .int (nI ln), .ref m18, .ref m19, .ref m20, .ref m21])), (m1, .inl (cI, 24, .inl kd)), (m2, .inl (cI, 24, .inl ag)), (m3, .inl (cI, 24, .inl (nF cb))), (m4, .inl (cI, 30, .inl nz)), (m5, .inl (cI, 24, .inl (nF pb))), (m6, .inl (cI, 480, .inl mk)), (m7, .inl (cI, 20, .inl mh)), (m8, .inl (cI, 120, .inl mt)), (m9, .inl (cI, 24, .inl mu)), (m10, .inl (cI, 24, .inl mi)), (m11, .inl (cI, 24, .inl of_)), (m12, .inl (cB, 100, .inl (bF bt))), (m13, .inl (cI, 6, .inl (nF ms))), (m14, .inl (cZ, 6, .inl (zF dn_))), (m15, .inl (cI, 6, .inl (nF ns_))), (m16, .inl (cZ, 6, .inl (zF nd_))), (m17, .inl (cI, 144, .inl vls)), (m18, .inl (cI, 600, .inl ld)), (m19, .inl (cI, 600, .inl lc)), (m20, .inl (cI, 600, .inl lm)), (m21, .inl (cI, 10, .inl mp))] → lv_has ls 6 [(0, .ref m0), (1, .int kind), (2, .int kk), (3, .int (nI y)), (4, .int (nI d9)), (5, .int (nI o))] → W p l e rm_c_X10_rankOf_no s m args below meth c H locs 0 0 Q (F0 m 29 ls []) := by
            intro fuel
            induction fuel with
            | zero => intro o d9 ho eq2 hfu; exact absurd hfu (Nat.not_lt_zero _)
            | succ fuel ih =>
              intro o d9 ho eq2 hfu H locs ls hw hl
              have ih29 := ih
              refine lv_iload hx hb dX10_rankOf_29 (lv_at hl 5 rfl) ?_
              refine lv_aload_n hx hb dX10_rankOf_31 rfl (lv_at hl 0 rfl) ?_
              refine w_get (C := RX10) (T := TX10) (N := 34) (ci := 10) hx hb hts in_10 hown hc hw 0 4 rfl rfl (by decide) lk_0 rfl dX10_rankOf_32 ?_
              refine wb_icmp_ge (tgt := 81) hx hb (by omega) (by omega) dX10_rankOf_35 (by decide) (fun c_3 => ?_) (fun c_3 => ?_)
              · skip
                refine lv_iload hx hb dX10_rankOf_81 (lv_at hl 4 rfl) ?_
                refine lv_iload_n hx hb dX10_rankOf_83 rfl (lv_at hl 2 rfl) ?_
                refine lv_icmp_ne (tgt := 89) hx hb dX10_rankOf_84 (by decide) (fun c_4 => ?_) (fun c_4 => ?_)
                · skip
                  have hck9 := c_4
                  refine wn_iinc (a := y) (d := 1) (lv' := [(3, .int (nI (y + 1))), (0, .ref m0), (1, .int kind), (2, .int kk), (4, .int (nI d9)), (5, .int (nI o))]) hx hb dX10_rankOf_89 hl (k := 3) rfl (by decide) rfl (fun ls hl => ?_)
                  refine lv_goto (tgt := 2) hx hb dX10_rankOf_92 (by decide) ?_
                  exact ih2 (y + 1) (by omega) (by rw [eq1, rkO_s (by omega), if_neg (by rintro ⟨h8, h9⟩; first | exact hkd9 h8 | exact hck9 (by rw [eq2, show o = n by omega]; exact h9))]) (by omega) _ _ _ hw (lv_sub hl [1, 2, 3, 0] rfl)
                · skip
                  have hck8 := c_4
                  refine lv_iload_n hx hb dX10_rankOf_87 rfl (lv_at hl 3 rfl) ?_
                  exact absurd (hr9.symm.trans (by rw [eq1, rkO_s (by omega), if_pos ⟨hkd8, by rw [← hck8, eq2, show o = n by omega]⟩])) (by simp)
              · skip
                refine lv_iload hx hb dX10_rankOf_38 (lv_at hl 4 rfl) ?_
                refine lv_iload hx hb dX10_rankOf_40 (lv_at hl 5 rfl) ?_
                refine lv_iload_n hx hb dX10_rankOf_42 rfl (lv_at hl 3 rfl) ?_
                refine wb_icmp_eq (tgt := 71) hx hb (by omega) (by omega) dX10_rankOf_43 (by decide) (fun c_5 => ?_) (fun c_5 => ?_)
                · skip
                  refine lv_iconst (v := nI 0) hx hb dX10_rankOf_71 (by decide) ?_
                  refine wn_iadd hx hb dX10_rankOf_72 ?_
                  refine lv_istore (lv' := [(4, .int (nI (d9 + 0))), (0, .ref m0), (1, .int kind), (2, .int kk), (3, .int (nI y)), (5, .int (nI o))]) hx hb dX10_rankOf_73 hl (by decide) rfl (fun ls hl => ?_)
                  refine wn_iinc (a := o) (d := 1) (lv' := [(5, .int (nI (o + 1))), (4, .int (nI (d9 + 0))), (0, .ref m0), (1, .int kind), (2, .int kk), (3, .int (nI y))]) hx hb dX10_rankOf_75 hl (k := 5) rfl (by decide) rfl (fun ls hl => ?_)
                  refine lv_goto (tgt := 29) hx hb dX10_rankOf_78 (by decide) ?_
                  exact ih29 (o + 1) (d9 + 0) (by omega) (by simp only [cnA]; first | (rw [if_pos ⟨by assumption, by assumption, by assumption⟩, eq2]) | (rw [if_neg (by rintro ⟨h7, h8, h9⟩; first | exact h7 (by assumption) | exact absurd h8 (by assumption) | exact absurd (h9.symm.trans hah9) (by decide)), eq2])) (by omega) _ _ _ hw (lv_sub hl [2, 3, 4, 5, 1, 0] rfl)
                · skip
                  refine lv_aload_n hx hb dX10_rankOf_46 rfl (lv_at hl 0 rfl) ?_
                  refine w_get (C := RX10) (T := TX10) (N := 34) (ci := 10) hx hb hts in_10 hown hc hw 0 1 rfl rfl (by decide) lk_1 rfl dX10_rankOf_47 ?_
                  refine lv_iload hx hb dX10_rankOf_50 (lv_at hl 5 rfl) ?_
                  refine w_iald hx hb hc hw 1 rfl rfl (i := o) (by omega) (by decide) dX10_rankOf_52 ?_
                  refine lv_iload_n hx hb dX10_rankOf_53 rfl (lv_at hl 1 rfl) ?_
                  refine lv_icmp_ne (tgt := 71) hx hb dX10_rankOf_54 (by decide) (fun c_6 => ?_) (fun c_6 => ?_)
                  · skip
                    refine lv_iconst (v := nI 0) hx hb dX10_rankOf_71 (by decide) ?_
                    refine wn_iadd hx hb dX10_rankOf_72 ?_
                    refine lv_istore (lv' := [(4, .int (nI (d9 + 0))), (0, .ref m0), (1, .int kind), (2, .int kk), (3, .int (nI y)), (5, .int (nI o))]) hx hb dX10_rankOf_73 hl (by decide) rfl (fun ls hl => ?_)
                    refine wn_iinc (a := o) (d := 1) (lv' := [(5, .int (nI (o + 1))), (4, .int (nI (d9 + 0))), (0, .ref m0), (1, .int kind), (2, .int kk), (3, .int (nI y))]) hx hb dX10_rankOf_75 hl (k := 5) rfl (by decide) rfl (fun ls hl => ?_)
                    refine lv_goto (tgt := 29) hx hb dX10_rankOf_78 (by decide) ?_
                    exact ih29 (o + 1) (d9 + 0) (by omega) (by simp only [cnA]; first | (rw [if_pos ⟨by assumption, by assumption, by assumption⟩, eq2]) | (rw [if_neg (by rintro ⟨h7, h8, h9⟩; first | exact h7 (by assumption) | exact absurd h8 (by assumption) | exact absurd (h9.symm.trans hah9) (by decide)), eq2])) (by omega) _ _ _ hw (lv_sub hl [2, 3, 4, 5, 1, 0] rfl)
                  · skip
                    refine lv_aload_n hx hb dX10_rankOf_57 rfl (lv_at hl 0 rfl) ?_
                    refine lv_iload hx hb dX10_rankOf_58 (lv_at hl 5 rfl) ?_
                    refine lv_iload_n hx hb dX10_rankOf_60 rfl (lv_at hl 3 rfl) ?_
                    refine k_i (wr := []) (j_V ⟨hx, hb, hml, hown, hts⟩ (c_X10_isAhead l D cI cZ cB cJ b0 adK adV m0 m1 m2 m3 m4 m5 m6 m7 m8 m9 m10 m11 m12 m13 m14 m15 m16 m17 m18 m19 m20 m21 th n P nn sb al tn zs hp iw nk dy ln kd ag cb nz pb mk mh mt mu mi of_ bt ms dn_ ns_ nd_ vls ld lc lm mp o y (by omega) (by omega) hvs (by omega) (by omega) H.size) (cwV 2 hts gX10_rankOf_X10_isAhead rfl rfl rfl (by decide +kernel) ⟨by decide, by decide⟩) hc hw [0, 1, 2, 3, 4, 5, 6, 7, 8, 9, 10, 11, 12, 13, 14, 15, 16, 17, 18, 19, 20, 21] rfl rfl 10 0 rfl rfl rfl rfl hl.1 rfl (Nat.le_of_ble_eq_true rfl) dX10_rankOf_61 ⟨by decide, by decide⟩) hc hw [0, 1, 2, 3, 4, 5, 6, 7, 8, 9, 10, 11, 12, 13, 14, 15, 16, 17, 18, 19, 20, 21] [] rfl rfl (by decide) (by decide) (fun r w H locs hq hw => ?_)
                    obtain ⟨rfl, rfl⟩ := hq
                    have hw : Wd D A s H locs [(m0, .inr (10, [.int th, .ref m1, .ref m2, .ref m3, .int (nI n), .int (nI P), .ref m4, .int (nI nn), .ref m5, .ref m6, .ref m7, .ref m8, .ref m9, .int (zI sb), .ref m10, .ref m11, .int al, .ref m12, .int (nI tn), .int (nI zs), .int (nI hp), .int (zI iw), .ref m13, .ref m14, .int (nI nk), .ref m15, .ref m16, .ref m17, .int (nI dy), .int (nI ln), .ref m18, .ref m19, .ref m20, .ref m21])), (m1, .inl (cI, 24, .inl kd)), (m2, .inl (cI, 24, .inl ag)), (m3, .inl (cI, 24, .inl (nF cb))), (m4, .inl (cI, 30, .inl nz)), (m5, .inl (cI, 24, .inl (nF pb))), (m6, .inl (cI, 480, .inl mk)), (m7, .inl (cI, 20, .inl mh)), (m8, .inl (cI, 120, .inl mt)), (m9, .inl (cI, 24, .inl mu)), (m10, .inl (cI, 24, .inl mi)), (m11, .inl (cI, 24, .inl of_)), (m12, .inl (cB, 100, .inl (bF bt))), (m13, .inl (cI, 6, .inl (nF ms))), (m14, .inl (cZ, 6, .inl (zF dn_))), (m15, .inl (cI, 6, .inl (nF ns_))), (m16, .inl (cZ, 6, .inl (zF nd_))), (m17, .inl (cI, 144, .inl vls)), (m18, .inl (cI, 600, .inl ld)), (m19, .inl (cI, 600, .inl lc)), (m20, .inl (cI, 600, .inl lm)), (m21, .inl (cI, 10, .inl mp))] := hw
                    refine wz_if_eq (tgt := 71) hx hb dX10_rankOf_64 (by decide) (fun c_7 => ?_) (fun c_7 => ?_)
                    · skip
                      have hah9 := c_7
                      refine lv_iconst (v := nI 0) hx hb dX10_rankOf_71 (by decide) ?_
                      refine wn_iadd hx hb dX10_rankOf_72 ?_
                      refine lv_istore (lv' := [(4, .int (nI (d9 + 0))), (0, .ref m0), (1, .int kind), (2, .int kk), (3, .int (nI y)), (5, .int (nI o))]) hx hb dX10_rankOf_73 hl (by decide) rfl (fun ls hl => ?_)
                      refine wn_iinc (a := o) (d := 1) (lv' := [(5, .int (nI (o + 1))), (4, .int (nI (d9 + 0))), (0, .ref m0), (1, .int kind), (2, .int kk), (3, .int (nI y))]) hx hb dX10_rankOf_75 hl (k := 5) rfl (by decide) rfl (fun ls hl => ?_)
                      refine lv_goto (tgt := 29) hx hb dX10_rankOf_78 (by decide) ?_
                      exact ih29 (o + 1) (d9 + 0) (by omega) (by simp only [cnA]; first | (rw [if_pos ⟨by assumption, by assumption, by assumption⟩, eq2]) | (rw [if_neg (by rintro ⟨h7, h8, h9⟩; first | exact h7 (by assumption) | exact absurd h8 (by assumption) | exact absurd (h9.symm.trans hah9) (by decide)), eq2])) (by omega) _ _ _ hw (lv_sub hl [2, 3, 4, 5, 1, 0] rfl)
                    · skip
                      refine lv_iconst (v := nI 1) hx hb dX10_rankOf_67 (by decide) ?_
                      refine lv_goto (tgt := 72) hx hb dX10_rankOf_68 (by decide) ?_
                      refine wn_iadd hx hb dX10_rankOf_72 ?_
                      refine lv_istore (lv' := [(4, .int (nI (d9 + 1))), (0, .ref m0), (1, .int kind), (2, .int kk), (3, .int (nI y)), (5, .int (nI o))]) hx hb dX10_rankOf_73 hl (by decide) rfl (fun ls hl => ?_)
                      refine wn_iinc (a := o) (d := 1) (lv' := [(5, .int (nI (o + 1))), (4, .int (nI (d9 + 1))), (0, .ref m0), (1, .int kind), (2, .int kk), (3, .int (nI y))]) hx hb dX10_rankOf_75 hl (k := 5) rfl (by decide) rfl (fun ls hl => ?_)
                      refine lv_goto (tgt := 29) hx hb dX10_rankOf_78 (by decide) ?_
                      exact ih29 (o + 1) (d9 + 1) (by omega) (by simp only [cnA]; first | (rw [if_pos ⟨by assumption, by assumption, by assumption⟩, eq2]) | (rw [if_neg (by rintro ⟨h7, h8, h9⟩; first | exact h7 (by assumption) | exact absurd h8 (by assumption) | exact absurd (h9.symm.trans hah9) (by decide)), eq2])) (by omega) _ _ _ hw (lv_sub hl [2, 3, 4, 5, 1, 0] rfl)
          exact key29 (n - 0 + 1) 0 0 (by omega) rfl (Nat.lt_succ_self _) _ _ _ hw (lv_sub hl [2, 3, 4, 5, 1, 0] rfl)
        · skip
          have hkd9 := c_2
          refine lv_goto (tgt := 89) hx hb dX10_rankOf_20 (by decide) ?_
          refine wn_iinc (a := y) (d := 1) (lv' := [(3, .int (nI (y + 1))), (0, .ref m0), (1, .int kind), (2, .int kk)]) hx hb dX10_rankOf_89 hl (k := 3) rfl (by decide) rfl (fun ls hl => ?_)
          refine lv_goto (tgt := 2) hx hb dX10_rankOf_92 (by decide) ?_
          exact ih2 (y + 1) (by omega) (by rw [eq1, rkO_s (by omega), if_neg (by rintro ⟨h8, h9⟩; first | exact hkd9 h8 | exact hck9 (by rw [eq2, show o = n by omega]; exact h9))]) (by omega) _ _ _ hw (lv_sub hl [1, 2, 3, 0] rfl)
  exact key2 (n - 0 + 1) 0 (by omega) rfl (Nat.lt_succ_self _) _ _ _ hw (lv_sub hl [1, 2, 3, 0] rfl)
