def rm_c_L_about_arg : Room := { frames := 7, cells := 1, slots := 6, locals := 104 }
set_option maxHeartbeats 4000000 in
set_option maxRecDepth 100000 in
theorem c_L_about_arg (l : Launch) (D : va_G) (cI cZ cB cJ : ClassId) (b0 : Nat) (adK adV : Nat → Nat) (hls : l.stackTraces = false) (x0 z0 e0 s0 u0 t0 k0 r0 g0 w0 y0 e1 e2 e3 e4 e5 q0 : Nat) (dy : Nat) (kd : Nat → Int32) (ag : Nat → Int32) (cb : Nat → Nat) (pb : Nat → Nat) (pp : Nat → Nat) (n : Nat) (q : Nat) (w : Int32) (ot : Nat → Int64) (hn : n ≤ 24) (hq : q < n) (hwh : ∀ i, i ≤ 6 → ¬ w = nI i) : Mi l yL_about wsL_about rm_c_L_about_arg D (TYs cI cZ cB cJ) b0 adK adV [.ref x0, .int (nI q), .int w, .ref q0] [(x0, .inr (9, [.ref z0, .ref e0, .ref s0, .ref u0, .ref t0, .ref k0, .ref r0, .ref g0, .ref w0, .ref y0, .int (nI dy)])), (e0, .inr (1, [.ref e1, .ref e2, .ref e3, .ref e4, .ref e5, .int (nI n), .int (zI true)])), (e1, .inl (cI, 24, .inl kd)), (e2, .inl (cI, 24, .inl ag)), (e3, .inl (cI, 24, .inl (nF cb))), (e4, .inl (cI, 24, .inl (nF pb))), (e5, .inl (cI, 24, .inl (nF pp))), (q0, .inl (cJ, 1, .inr (.inl ot)))] (fun (r : Int32) (w : va_W) => r = nI 2 ∧ w = [(x0, .inr (9, [.ref z0, .ref e0, .ref s0, .ref u0, .ref t0, .ref k0, .ref r0, .ref g0, .ref w0, .ref y0, .int (nI dy)])), (e0, .inr (1, [.ref e1, .ref e2, .ref e3, .ref e4, .ref e5, .int (nI n), .int (zI true)])), (e1, .inl (cI, 24, .inl kd)), (e2, .inl (cI, 24, .inl ag)), (e3, .inl (cI, 24, .inl (nF cb))), (e4, .inl (cI, 24, .inl (nF pb))), (e5, .inl (cI, 24, .inl (nF pp))), (q0, .inl (cJ, 1, .inr (.inl ot)))]) 1 6 := by
  refine e_W (Qf := fun A => va_Qi (fun (r : Int32) (w : va_W) => r = nI 2 ∧ w = [(x0, .inr (9, [.ref z0, .ref e0, .ref s0, .ref u0, .ref t0, .ref k0, .ref r0, .ref g0, .ref w0, .ref y0, .int (nI dy)])), (e0, .inr (1, [.ref e1, .ref e2, .ref e3, .ref e4, .ref e5, .int (nI n), .int (zI true)])), (e1, .inl (cI, 24, .inl kd)), (e2, .inl (cI, 24, .inl ag)), (e3, .inl (cI, 24, .inl (nF cb))), (e4, .inl (cI, 24, .inl (nF pb))), (e5, .inl (cI, 24, .inl (nF pp))), (q0, .inl (cJ, 1, .inr (.inl ot)))]) (Bw D A) A) (cc := cL_about) (maxL := 5) (ret := (some .int)) (hh := [(0, 10, 13, 25), (0, 10, 17, 13)]) (by decide) rfl (Nat.le_of_ble_eq_true rfl) ?_
  intro p e s m args below meth c ls A Q H locs hx hb hr hml htb hts hown hlk hnm hc hw hl hQ
  have hl : lv_has ls 5 [(0, .ref x0), (1, .int (nI q)), (2, .int w), (3, .ref q0)] := hl
  have lk_0 := hts (.classLink RL 25 "java/lang/IndexOutOfBoundsException") (List.mem_of_getElem? (i := 1) rfl)
  have lk_1 := hts (.classLink RL 13 "java/lang/IllegalArgumentException") (List.mem_of_getElem? (i := 2) rfl)
  refine lv_aload_n hx hb dL_about_0 rfl (lv_at hl 3 rfl) ?_
  refine lv_iconst (v := nI 0) hx hb dL_about_1 (by decide) ?_
  refine lv_aload_n hx hb dL_about_2 rfl (lv_at hl 0 rfl) ?_
  refine lv_iload_n hx hb dL_about_3 rfl (lv_at hl 1 rfl) ?_
  refine lv_iload_n hx hb dL_about_4 rfl (lv_at hl 2 rfl) ?_
  refine kx_i (wr := [(q0, .inl (cJ, 1, .inr (.inl ot)))]) (jx_V ⟨hx, hb, hml, hown, hts⟩ (c_X9_about_arg l D cI cZ cB cJ b0 adK adV hls x0 z0 e0 s0 u0 t0 k0 r0 g0 w0 y0 e1 e2 e3 e4 e5 dy kd ag cb pb pp n q w hn hq hwh H.size) (cwV 2 hts gL_about_X9_about rfl rfl rfl (by decide +kernel) ⟨by decide, by decide⟩) hc hw [0, 1, 2, 3, 4, 5, 6] rfl rfl 9 0 rfl rfl rfl rfl hl.1 rfl (Nat.le_of_ble_eq_true rfl) dL_about_5 ⟨by decide, by decide⟩) hc hw [0, 1, 2, 3, 4, 5, 6] [7] rfl rfl (by decide) (by decide) (fun E ce qx w H locs hq hw hq1 hq2 hq3 => ?_) (fun r w H locs hq hw => ?_)
  · obtain ⟨hqE, rfl⟩ := hq
    have hw : Wd D A s H locs [(x0, .inr (9, [.ref z0, .ref e0, .ref s0, .ref u0, .ref t0, .ref k0, .ref r0, .ref g0, .ref w0, .ref y0, .int (nI dy)])), (e0, .inr (1, [.ref e1, .ref e2, .ref e3, .ref e4, .ref e5, .int (nI n), .int (zI true)])), (e1, .inl (cI, 24, .inl kd)), (e2, .inl (cI, 24, .inl ag)), (e3, .inl (cI, 24, .inl (nF cb))), (e4, .inl (cI, 24, .inl (nF pb))), (e5, .inl (cI, 24, .inl (nF pp))), (q0, .inl (cJ, 1, .inr (.inl ot)))] := hw.sub [1, 2, 3, 4, 5, 6, 7, 0] (by decide) rfl
    subst hqE
    refine vx_catch (name := "java/lang/IllegalArgumentException") hown [⟨0, 10, 13, 25⟩] ⟨0, 10, 17, 13⟩ [] (htb.trans rfl) (fun z hz => by rw [List.mem_singleton.mp hz]; exact Or.inr ⟨by decide, _, lk_0, hc.2.2.2.2.2.2.2.2.2.2.2.2.2.2.2.1⟩) (by decide) (by decide) lk_1 (va_Nw.use rfl (am_ex hc 0 rfl)) hq1 hq2 hq3 ?_
    refine W.widen (k := 1) (n := 6) (by decide) (by decide) ?_
    refine lv_astore (lv' := [(4, .ref qx), (0, .ref x0), (1, .int (nI q)), (2, .int w), (3, .ref q0)]) hx hb dL_about_17 hl (by decide) rfl (fun ls hl => ?_)
    refine lv_iconst (v := nI 2) hx hb dL_about_19 (by decide) ?_
    subst hQ
    exact r_i hx hb hr rfl hlk hw ⟨rfl, rfl⟩ dL_about_20
  · skip
    exact hq.1.elim
def rm_c_L_minutes : Room := { frames := 3, cells := 1, slots := 6, locals := 64 }
set_option maxHeartbeats 4000000 in
set_option maxRecDepth 100000 in
theorem c_L_minutes (l : Launch) (D : va_G) (cI cZ cB cJ : ClassId) (b0 : Nat) (adK adV : Nat → Nat) (x0 z0 e0 s0 u0 t0 k0 r0 g0 w0 y0 e1 e2 e3 e4 e5 u1 u2 q0 : Nat) (dy : Nat) (kd : Nat → Int32) (ag : Nat → Int32) (cb : Nat → Nat) (pb : Nat → Nat) (pp : Nat → Nat) (n : Nat) (mi : Nat → Int32) (of_ : Nat → Int32) (al : Int32) (q : Nat) (v : Int32) (ot : Nat → Int64) (hn : n ≤ 24) (hq : q < n) (hv1 : 0 ≤ v) (hv2 : v ≤ nI 600) : Mi l yL_minutes wsL_minutes rm_c_L_minutes D (TYs cI cZ cB cJ) b0 adK adV [.ref x0, .int (nI q), .int v, .ref q0] [(x0, .inr (9, [.ref z0, .ref e0, .ref s0, .ref u0, .ref t0, .ref k0, .ref r0, .ref g0, .ref w0, .ref y0, .int (nI dy)])), (e0, .inr (1, [.ref e1, .ref e2, .ref e3, .ref e4, .ref e5, .int (nI n), .int (zI true)])), (e1, .inl (cI, 24, .inl kd)), (e2, .inl (cI, 24, .inl ag)), (e3, .inl (cI, 24, .inl (nF cb))), (e4, .inl (cI, 24, .inl (nF pb))), (e5, .inl (cI, 24, .inl (nF pp))), (u0, .inr (5, [.ref s0, .ref u1, .ref u2, .int al])), (u1, .inl (cI, 24, .inl mi)), (u2, .inl (cI, 24, .inl of_)), (q0, .inl (cJ, 1, .inr (.inl ot)))] (fun (r : Int32) (w : va_W) => r = nI 0 ∧ w = [(x0, .inr (9, [.ref z0, .ref e0, .ref s0, .ref u0, .ref t0, .ref k0, .ref r0, .ref g0, .ref w0, .ref y0, .int (nI dy)])), (e0, .inr (1, [.ref e1, .ref e2, .ref e3, .ref e4, .ref e5, .int (nI n), .int (zI true)])), (e1, .inl (cI, 24, .inl kd)), (e2, .inl (cI, 24, .inl ag)), (e3, .inl (cI, 24, .inl (nF cb))), (e4, .inl (cI, 24, .inl (nF pb))), (e5, .inl (cI, 24, .inl (nF pp))), (u0, .inr (5, [.ref s0, .ref u1, .ref u2, .int al])), (u1, .inl (cI, 24, .inl (upd mi q v))), (u2, .inl (cI, 24, .inl of_)), (q0, .inl (cJ, 1, .inr (.inl (vp_updL ot 0 ((mi q).toInt64)))))]) 1 6 := by
  refine e_W (Qf := fun A => va_Qi (fun (r : Int32) (w : va_W) => r = nI 0 ∧ w = [(x0, .inr (9, [.ref z0, .ref e0, .ref s0, .ref u0, .ref t0, .ref k0, .ref r0, .ref g0, .ref w0, .ref y0, .int (nI dy)])), (e0, .inr (1, [.ref e1, .ref e2, .ref e3, .ref e4, .ref e5, .int (nI n), .int (zI true)])), (e1, .inl (cI, 24, .inl kd)), (e2, .inl (cI, 24, .inl ag)), (e3, .inl (cI, 24, .inl (nF cb))), (e4, .inl (cI, 24, .inl (nF pb))), (e5, .inl (cI, 24, .inl (nF pp))), (u0, .inr (5, [.ref s0, .ref u1, .ref u2, .int al])), (u1, .inl (cI, 24, .inl (upd mi q v))), (u2, .inl (cI, 24, .inl of_)), (q0, .inl (cJ, 1, .inr (.inl (vp_updL ot 0 ((mi q).toInt64)))))]) (Bw D A) A) (cc := cL_minutes) (maxL := 5) (ret := (some .int)) (hh := [(0, 10, 13, 25), (0, 10, 17, 13)]) (by decide) rfl (Nat.le_of_ble_eq_true rfl) ?_
  intro p e s m args below meth c ls A Q H locs hx hb hr hml htb hts hown hlk hnm hc hw hl hQ
  have hl : lv_has ls 5 [(0, .ref x0), (1, .int (nI q)), (2, .int v), (3, .ref q0)] := hl
  refine lv_aload_n hx hb dL_minutes_0 rfl (lv_at hl 3 rfl) ?_
  refine lv_iconst (v := nI 0) hx hb dL_minutes_1 (by decide) ?_
  refine lv_aload_n hx hb dL_minutes_2 rfl (lv_at hl 0 rfl) ?_
  refine lv_iload_n hx hb dL_minutes_3 rfl (lv_at hl 1 rfl) ?_
  refine lv_iload_n hx hb dL_minutes_4 rfl (lv_at hl 2 rfl) ?_
  refine k_i (wr := [(q0, .inl (cJ, 1, .inr (.inl ot)))]) (j_V ⟨hx, hb, hml, hown, hts⟩ (c_X9_minutes l D cI cZ cB cJ b0 adK adV x0 z0 e0 s0 u0 t0 k0 r0 g0 w0 y0 e1 e2 e3 e4 e5 u1 u2 dy kd ag cb pb pp n mi of_ al q v hn hq hv1 hv2 H.size) (cwV 2 hts gL_minutes_X9_minutes rfl rfl rfl (by decide +kernel) ⟨by decide, by decide⟩) hc hw [0, 1, 2, 3, 4, 5, 6, 7, 8, 9] rfl rfl 9 0 rfl rfl rfl rfl hl.1 rfl (Nat.le_of_ble_eq_true rfl) dL_minutes_5 ⟨by decide, by decide⟩) hc hw [0, 1, 2, 3, 4, 5, 6, 7, 8, 9] [10] rfl rfl (by decide) (by decide) (fun r w H locs hq hw => ?_)
  obtain ⟨rfl, rfl⟩ := hq
  have hw : Wd D A s H locs [(x0, .inr (9, [.ref z0, .ref e0, .ref s0, .ref u0, .ref t0, .ref k0, .ref r0, .ref g0, .ref w0, .ref y0, .int (nI dy)])), (e0, .inr (1, [.ref e1, .ref e2, .ref e3, .ref e4, .ref e5, .int (nI n), .int (zI true)])), (e1, .inl (cI, 24, .inl kd)), (e2, .inl (cI, 24, .inl ag)), (e3, .inl (cI, 24, .inl (nF cb))), (e4, .inl (cI, 24, .inl (nF pb))), (e5, .inl (cI, 24, .inl (nF pp))), (u0, .inr (5, [.ref s0, .ref u1, .ref u2, .int al])), (u1, .inl (cI, 24, .inl (upd mi q v))), (u2, .inl (cI, 24, .inl of_)), (q0, .inl (cJ, 1, .inr (.inl ot)))] := hw.sub [1, 2, 3, 4, 5, 6, 7, 8, 9, 10, 0] (by decide) rfl
  refine lv_i2l (v := (mi q).toInt64) hx hb dL_minutes_8 rfl ?_
  refine w_last (ws1 := [(x0, .inr (9, [.ref z0, .ref e0, .ref s0, .ref u0, .ref t0, .ref k0, .ref r0, .ref g0, .ref w0, .ref y0, .int (nI dy)])), (e0, .inr (1, [.ref e1, .ref e2, .ref e3, .ref e4, .ref e5, .int (nI n), .int (zI true)])), (e1, .inl (cI, 24, .inl kd)), (e2, .inl (cI, 24, .inl ag)), (e3, .inl (cI, 24, .inl (nF cb))), (e4, .inl (cI, 24, .inl (nF pb))), (e5, .inl (cI, 24, .inl (nF pp))), (u0, .inr (5, [.ref s0, .ref u1, .ref u2, .int al])), (u1, .inl (cI, 24, .inl (upd mi q v))), (u2, .inl (cI, 24, .inl of_)), (q0, .inl (cJ, 1, .inr (.inl (vp_updL ot 0 ((mi q).toInt64)))))]) hx hb hc hw 10 rfl rfl (i := 0) (by decide) (by decide) rfl dL_minutes_9 (fun H locs hw => ?_)
  refine lv_goto (tgt := 21) hx hb dL_minutes_10 (by decide) ?_
  refine lv_iconst (v := nI 0) hx hb dL_minutes_21 (by decide) ?_
  refine W.widen (k := 1) (n := 6) (by decide) (by decide) ?_
  subst hQ
  exact r_i hx hb hr rfl hlk hw ⟨rfl, rfl⟩ dL_minutes_22
def rm_c_L_minutes_ix : Room := { frames := 8, cells := 1, slots := 6, locals := 125 }
set_option maxHeartbeats 4000000 in
set_option maxRecDepth 100000 in
theorem c_L_minutes_ix (l : Launch) (D : va_G) (cI cZ cB cJ : ClassId) (b0 : Nat) (adK adV : Nat → Nat) (hls : l.stackTraces = false) (x0 z0 e0 s0 u0 t0 k0 r0 g0 w0 y0 e1 e2 e3 e4 e5 q0 : Nat) (dy : Nat) (kd : Nat → Int32) (ag : Nat → Int32) (cb : Nat → Nat) (pb : Nat → Nat) (pp : Nat → Nat) (n : Nat) (dr : Bool) (q : Int32) (v : Int32) (ot : Nat → Int64) (hi : isB q (nI (pl dr n)) = false) : Mi l yL_minutes wsL_minutes rm_c_L_minutes_ix D (TYs cI cZ cB cJ) b0 adK adV [.ref x0, .int q, .int v, .ref q0] [(x0, .inr (9, [.ref z0, .ref e0, .ref s0, .ref u0, .ref t0, .ref k0, .ref r0, .ref g0, .ref w0, .ref y0, .int (nI dy)])), (e0, .inr (1, [.ref e1, .ref e2, .ref e3, .ref e4, .ref e5, .int (nI n), .int (zI dr)])), (e1, .inl (cI, 24, .inl kd)), (e2, .inl (cI, 24, .inl ag)), (e3, .inl (cI, 24, .inl (nF cb))), (e4, .inl (cI, 24, .inl (nF pb))), (e5, .inl (cI, 24, .inl (nF pp))), (q0, .inl (cJ, 1, .inr (.inl ot)))] (fun (r : Int32) (w : va_W) => r = nI 1 ∧ w = [(x0, .inr (9, [.ref z0, .ref e0, .ref s0, .ref u0, .ref t0, .ref k0, .ref r0, .ref g0, .ref w0, .ref y0, .int (nI dy)])), (e0, .inr (1, [.ref e1, .ref e2, .ref e3, .ref e4, .ref e5, .int (nI n), .int (zI dr)])), (e1, .inl (cI, 24, .inl kd)), (e2, .inl (cI, 24, .inl ag)), (e3, .inl (cI, 24, .inl (nF cb))), (e4, .inl (cI, 24, .inl (nF pb))), (e5, .inl (cI, 24, .inl (nF pp))), (q0, .inl (cJ, 1, .inr (.inl ot)))]) 1 6 := by
  refine e_W (Qf := fun A => va_Qi (fun (r : Int32) (w : va_W) => r = nI 1 ∧ w = [(x0, .inr (9, [.ref z0, .ref e0, .ref s0, .ref u0, .ref t0, .ref k0, .ref r0, .ref g0, .ref w0, .ref y0, .int (nI dy)])), (e0, .inr (1, [.ref e1, .ref e2, .ref e3, .ref e4, .ref e5, .int (nI n), .int (zI dr)])), (e1, .inl (cI, 24, .inl kd)), (e2, .inl (cI, 24, .inl ag)), (e3, .inl (cI, 24, .inl (nF cb))), (e4, .inl (cI, 24, .inl (nF pb))), (e5, .inl (cI, 24, .inl (nF pp))), (q0, .inl (cJ, 1, .inr (.inl ot)))]) (Bw D A) A) (cc := cL_minutes) (maxL := 5) (ret := (some .int)) (hh := [(0, 10, 13, 25), (0, 10, 17, 13)]) (by decide) rfl (Nat.le_of_ble_eq_true rfl) ?_
  intro p e s m args below meth c ls A Q H locs hx hb hr hml htb hts hown hlk hnm hc hw hl hQ
  have hl : lv_has ls 5 [(0, .ref x0), (1, .int q), (2, .int v), (3, .ref q0)] := hl
  have lk_0 := hts (.classLink RL 25 "java/lang/IndexOutOfBoundsException") (List.mem_of_getElem? (i := 1) rfl)
  refine lv_aload_n hx hb dL_minutes_0 rfl (lv_at hl 3 rfl) ?_
  refine lv_iconst (v := nI 0) hx hb dL_minutes_1 (by decide) ?_
  refine lv_aload_n hx hb dL_minutes_2 rfl (lv_at hl 0 rfl) ?_
  refine lv_iload_n hx hb dL_minutes_3 rfl (lv_at hl 1 rfl) ?_
  refine lv_iload_n hx hb dL_minutes_4 rfl (lv_at hl 2 rfl) ?_
  refine kx_i (wr := [(q0, .inl (cJ, 1, .inr (.inl ot)))]) (jx_V ⟨hx, hb, hml, hown, hts⟩ (c_X9_minutes_ix l D cI cZ cB cJ b0 adK adV hls x0 z0 e0 s0 u0 t0 k0 r0 g0 w0 y0 e1 e2 e3 e4 e5 dy kd ag cb pb pp n dr q v hi H.size) (cwV 2 hts gL_minutes_X9_minutes rfl rfl rfl (by decide +kernel) ⟨by decide, by decide⟩) hc hw [0, 1, 2, 3, 4, 5, 6] rfl rfl 9 0 rfl rfl rfl rfl hl.1 rfl (Nat.le_of_ble_eq_true rfl) dL_minutes_5 ⟨by decide, by decide⟩) hc hw [0, 1, 2, 3, 4, 5, 6] [7] rfl rfl (by decide) (by decide) (fun E ce qx w H locs hq hw hq1 hq2 hq3 => ?_) (fun r w H locs hq hw => ?_)
  · obtain ⟨hqE, rfl⟩ := hq
    have hw : Wd D A s H locs [(x0, .inr (9, [.ref z0, .ref e0, .ref s0, .ref u0, .ref t0, .ref k0, .ref r0, .ref g0, .ref w0, .ref y0, .int (nI dy)])), (e0, .inr (1, [.ref e1, .ref e2, .ref e3, .ref e4, .ref e5, .int (nI n), .int (zI dr)])), (e1, .inl (cI, 24, .inl kd)), (e2, .inl (cI, 24, .inl ag)), (e3, .inl (cI, 24, .inl (nF cb))), (e4, .inl (cI, 24, .inl (nF pb))), (e5, .inl (cI, 24, .inl (nF pp))), (q0, .inl (cJ, 1, .inr (.inl ot)))] := hw.sub [1, 2, 3, 4, 5, 6, 7, 0] (by decide) rfl
    subst hqE
    refine vx_catch (name := "java/lang/IndexOutOfBoundsException") hown [] ⟨0, 10, 13, 25⟩ [⟨0, 10, 17, 13⟩] (htb.trans rfl) (fun z hz => absurd hz List.not_mem_nil) (by decide) (by decide) lk_0 (va_Nw.use rfl (am_ex hc 2 rfl)) hq1 hq2 hq3 ?_
    refine W.widen (k := 1) (n := 6) (by decide) (by decide) ?_
    refine lv_astore (lv' := [(4, .ref qx), (0, .ref x0), (1, .int q), (2, .int v), (3, .ref q0)]) hx hb dL_minutes_13 hl (by decide) rfl (fun ls hl => ?_)
    refine lv_iconst (v := nI 1) hx hb dL_minutes_15 (by decide) ?_
    subst hQ
    exact r_i hx hb hr rfl hlk hw ⟨rfl, rfl⟩ dL_minutes_16
  · skip
    exact hq.1.elim
def rm_c_L_minutes_arg : Room := { frames := 8, cells := 1, slots := 6, locals := 124 }
set_option maxHeartbeats 4000000 in
set_option maxRecDepth 100000 in
theorem c_L_minutes_arg (l : Launch) (D : va_G) (cI cZ cB cJ : ClassId) (b0 : Nat) (adK adV : Nat → Nat) (hls : l.stackTraces = false) (x0 z0 e0 s0 u0 t0 k0 r0 g0 w0 y0 e1 e2 e3 e4 e5 q0 : Nat) (dy : Nat) (kd : Nat → Int32) (ag : Nat → Int32) (cb : Nat → Nat) (pb : Nat → Nat) (pp : Nat → Nat) (n : Nat) (q : Nat) (v : Int32) (ot : Nat → Int64) (hn : n ≤ 24) (hq : q < n) (hbad : ¬ (0 ≤ v ∧ v ≤ nI 600)) : Mi l yL_minutes wsL_minutes rm_c_L_minutes_arg D (TYs cI cZ cB cJ) b0 adK adV [.ref x0, .int (nI q), .int v, .ref q0] [(x0, .inr (9, [.ref z0, .ref e0, .ref s0, .ref u0, .ref t0, .ref k0, .ref r0, .ref g0, .ref w0, .ref y0, .int (nI dy)])), (e0, .inr (1, [.ref e1, .ref e2, .ref e3, .ref e4, .ref e5, .int (nI n), .int (zI true)])), (e1, .inl (cI, 24, .inl kd)), (e2, .inl (cI, 24, .inl ag)), (e3, .inl (cI, 24, .inl (nF cb))), (e4, .inl (cI, 24, .inl (nF pb))), (e5, .inl (cI, 24, .inl (nF pp))), (q0, .inl (cJ, 1, .inr (.inl ot)))] (fun (r : Int32) (w : va_W) => r = nI 2 ∧ w = [(x0, .inr (9, [.ref z0, .ref e0, .ref s0, .ref u0, .ref t0, .ref k0, .ref r0, .ref g0, .ref w0, .ref y0, .int (nI dy)])), (e0, .inr (1, [.ref e1, .ref e2, .ref e3, .ref e4, .ref e5, .int (nI n), .int (zI true)])), (e1, .inl (cI, 24, .inl kd)), (e2, .inl (cI, 24, .inl ag)), (e3, .inl (cI, 24, .inl (nF cb))), (e4, .inl (cI, 24, .inl (nF pb))), (e5, .inl (cI, 24, .inl (nF pp))), (q0, .inl (cJ, 1, .inr (.inl ot)))]) 1 6 := by
  refine e_W (Qf := fun A => va_Qi (fun (r : Int32) (w : va_W) => r = nI 2 ∧ w = [(x0, .inr (9, [.ref z0, .ref e0, .ref s0, .ref u0, .ref t0, .ref k0, .ref r0, .ref g0, .ref w0, .ref y0, .int (nI dy)])), (e0, .inr (1, [.ref e1, .ref e2, .ref e3, .ref e4, .ref e5, .int (nI n), .int (zI true)])), (e1, .inl (cI, 24, .inl kd)), (e2, .inl (cI, 24, .inl ag)), (e3, .inl (cI, 24, .inl (nF cb))), (e4, .inl (cI, 24, .inl (nF pb))), (e5, .inl (cI, 24, .inl (nF pp))), (q0, .inl (cJ, 1, .inr (.inl ot)))]) (Bw D A) A) (cc := cL_minutes) (maxL := 5) (ret := (some .int)) (hh := [(0, 10, 13, 25), (0, 10, 17, 13)]) (by decide) rfl (Nat.le_of_ble_eq_true rfl) ?_
  intro p e s m args below meth c ls A Q H locs hx hb hr hml htb hts hown hlk hnm hc hw hl hQ
  have hl : lv_has ls 5 [(0, .ref x0), (1, .int (nI q)), (2, .int v), (3, .ref q0)] := hl
  have lk_0 := hts (.classLink RL 25 "java/lang/IndexOutOfBoundsException") (List.mem_of_getElem? (i := 1) rfl)
  have lk_1 := hts (.classLink RL 13 "java/lang/IllegalArgumentException") (List.mem_of_getElem? (i := 2) rfl)
  refine lv_aload_n hx hb dL_minutes_0 rfl (lv_at hl 3 rfl) ?_
  refine lv_iconst (v := nI 0) hx hb dL_minutes_1 (by decide) ?_
  refine lv_aload_n hx hb dL_minutes_2 rfl (lv_at hl 0 rfl) ?_
  refine lv_iload_n hx hb dL_minutes_3 rfl (lv_at hl 1 rfl) ?_
  refine lv_iload_n hx hb dL_minutes_4 rfl (lv_at hl 2 rfl) ?_
  refine kx_i (wr := [(q0, .inl (cJ, 1, .inr (.inl ot)))]) (jx_V ⟨hx, hb, hml, hown, hts⟩ (c_X9_minutes_arg l D cI cZ cB cJ b0 adK adV hls x0 z0 e0 s0 u0 t0 k0 r0 g0 w0 y0 e1 e2 e3 e4 e5 dy kd ag cb pb pp n q v hn hq hbad H.size) (cwV 2 hts gL_minutes_X9_minutes rfl rfl rfl (by decide +kernel) ⟨by decide, by decide⟩) hc hw [0, 1, 2, 3, 4, 5, 6] rfl rfl 9 0 rfl rfl rfl rfl hl.1 rfl (Nat.le_of_ble_eq_true rfl) dL_minutes_5 ⟨by decide, by decide⟩) hc hw [0, 1, 2, 3, 4, 5, 6] [7] rfl rfl (by decide) (by decide) (fun E ce qx w H locs hq hw hq1 hq2 hq3 => ?_) (fun r w H locs hq hw => ?_)
  · obtain ⟨hqE, rfl⟩ := hq
    have hw : Wd D A s H locs [(x0, .inr (9, [.ref z0, .ref e0, .ref s0, .ref u0, .ref t0, .ref k0, .ref r0, .ref g0, .ref w0, .ref y0, .int (nI dy)])), (e0, .inr (1, [.ref e1, .ref e2, .ref e3, .ref e4, .ref e5, .int (nI n), .int (zI true)])), (e1, .inl (cI, 24, .inl kd)), (e2, .inl (cI, 24, .inl ag)), (e3, .inl (cI, 24, .inl (nF cb))), (e4, .inl (cI, 24, .inl (nF pb))), (e5, .inl (cI, 24, .inl (nF pp))), (q0, .inl (cJ, 1, .inr (.inl ot)))] := hw.sub [1, 2, 3, 4, 5, 6, 7, 0] (by decide) rfl
    subst hqE
    refine vx_catch (name := "java/lang/IllegalArgumentException") hown [⟨0, 10, 13, 25⟩] ⟨0, 10, 17, 13⟩ [] (htb.trans rfl) (fun z hz => by rw [List.mem_singleton.mp hz]; exact Or.inr ⟨by decide, _, lk_0, hc.2.2.2.2.2.2.2.2.2.2.2.2.2.2.2.1⟩) (by decide) (by decide) lk_1 (va_Nw.use rfl (am_ex hc 0 rfl)) hq1 hq2 hq3 ?_
    refine W.widen (k := 1) (n := 6) (by decide) (by decide) ?_
    refine lv_astore (lv' := [(4, .ref qx), (0, .ref x0), (1, .int (nI q)), (2, .int v), (3, .ref q0)]) hx hb dL_minutes_17 hl (by decide) rfl (fun ls hl => ?_)
    refine lv_iconst (v := nI 2) hx hb dL_minutes_19 (by decide) ?_
    subst hQ
    exact r_i hx hb hr rfl hlk hw ⟨rfl, rfl⟩ dL_minutes_20
  · skip
    exact hq.1.elim
def rm_c_L_limit : Room := { frames := 2, cells := 1, slots := 6, locals := 43 }
set_option maxHeartbeats 4000000 in
set_option maxRecDepth 100000 in
theorem c_L_limit (l : Launch) (D : va_G) (cI cZ cB cJ : ClassId) (b0 : Nat) (adK adV : Nat → Nat) (x0 z0 e0 s0 u0 t0 k0 r0 g0 w0 y0 u1 u2 q0 : Nat) (dy : Nat) (mi : Nat → Int32) (of_ : Nat → Int32) (al : Int32) (v : Int32) (ot : Nat → Int64) (hv1 : 0 ≤ v) (hv2 : v ≤ nI 600) : Mi l yL_limit wsL_limit rm_c_L_limit D (TYs cI cZ cB cJ) b0 adK adV [.ref x0, .int v, .ref q0] [(x0, .inr (9, [.ref z0, .ref e0, .ref s0, .ref u0, .ref t0, .ref k0, .ref r0, .ref g0, .ref w0, .ref y0, .int (nI dy)])), (u0, .inr (5, [.ref s0, .ref u1, .ref u2, .int al])), (u1, .inl (cI, 24, .inl mi)), (u2, .inl (cI, 24, .inl of_)), (q0, .inl (cJ, 1, .inr (.inl ot)))] (fun (r : Int32) (w : va_W) => r = nI 0 ∧ w = [(x0, .inr (9, [.ref z0, .ref e0, .ref s0, .ref u0, .ref t0, .ref k0, .ref r0, .ref g0, .ref w0, .ref y0, .int (nI dy)])), (u0, .inr (5, [.ref s0, .ref u1, .ref u2, .int v])), (u1, .inl (cI, 24, .inl mi)), (u2, .inl (cI, 24, .inl of_)), (q0, .inl (cJ, 1, .inr (.inl (vp_updL ot 0 (al.toInt64)))))]) 1 6 := by
  refine e_W (Qf := fun A => va_Qi (fun (r : Int32) (w : va_W) => r = nI 0 ∧ w = [(x0, .inr (9, [.ref z0, .ref e0, .ref s0, .ref u0, .ref t0, .ref k0, .ref r0, .ref g0, .ref w0, .ref y0, .int (nI dy)])), (u0, .inr (5, [.ref s0, .ref u1, .ref u2, .int v])), (u1, .inl (cI, 24, .inl mi)), (u2, .inl (cI, 24, .inl of_)), (q0, .inl (cJ, 1, .inr (.inl (vp_updL ot 0 (al.toInt64)))))]) (Bw D A) A) (cc := cL_limit) (maxL := 4) (ret := (some .int)) (hh := [(0, 9, 12, 13)]) (by decide) rfl (Nat.le_of_ble_eq_true rfl) ?_
  intro p e s m args below meth c ls A Q H locs hx hb hr hml htb hts hown hlk hnm hc hw hl hQ
  have hl : lv_has ls 4 [(0, .ref x0), (1, .int v), (2, .ref q0)] := hl
  refine lv_aload_n hx hb dL_limit_0 rfl (lv_at hl 2 rfl) ?_
  refine lv_iconst (v := nI 0) hx hb dL_limit_1 (by decide) ?_
  refine lv_aload_n hx hb dL_limit_2 rfl (lv_at hl 0 rfl) ?_
  refine lv_iload_n hx hb dL_limit_3 rfl (lv_at hl 1 rfl) ?_
  refine k_i (wr := [(q0, .inl (cJ, 1, .inr (.inl ot)))]) (j_V ⟨hx, hb, hml, hown, hts⟩ (c_X9_limit l D cI cZ cB cJ b0 adK adV x0 z0 e0 s0 u0 t0 k0 r0 g0 w0 y0 u1 u2 dy mi of_ al v hv1 hv2 H.size) (cwV 1 hts gL_limit_X9_limit rfl rfl rfl (by decide +kernel) ⟨by decide, by decide⟩) hc hw [0, 1, 2, 3] rfl rfl 9 0 rfl rfl rfl rfl hl.1 rfl (Nat.le_of_ble_eq_true rfl) dL_limit_4 ⟨by decide, by decide⟩) hc hw [0, 1, 2, 3] [4] rfl rfl (by decide) (by decide) (fun r w H locs hq hw => ?_)
  obtain ⟨hr9, rfl⟩ := hq
  replace hr9 := hr9.symm
  subst hr9
  have hw : Wd D A s H locs [(x0, .inr (9, [.ref z0, .ref e0, .ref s0, .ref u0, .ref t0, .ref k0, .ref r0, .ref g0, .ref w0, .ref y0, .int (nI dy)])), (u0, .inr (5, [.ref s0, .ref u1, .ref u2, .int v])), (u1, .inl (cI, 24, .inl mi)), (u2, .inl (cI, 24, .inl of_)), (q0, .inl (cJ, 1, .inr (.inl ot)))] := hw.sub [1, 2, 3, 4, 0] (by decide) rfl
  refine lv_i2l (v := al.toInt64) hx hb dL_limit_7 rfl ?_
  refine w_last (ws1 := [(x0, .inr (9, [.ref z0, .ref e0, .ref s0, .ref u0, .ref t0, .ref k0, .ref r0, .ref g0, .ref w0, .ref y0, .int (nI dy)])), (u0, .inr (5, [.ref s0, .ref u1, .ref u2, .int v])), (u1, .inl (cI, 24, .inl mi)), (u2, .inl (cI, 24, .inl of_)), (q0, .inl (cJ, 1, .inr (.inl (vp_updL ot 0 al.toInt64))))]) hx hb hc hw 4 rfl rfl (i := 0) (by decide) (by decide) rfl dL_limit_8 (fun H locs hw => ?_)
  refine lv_goto (tgt := 15) hx hb dL_limit_9 (by decide) ?_
  refine lv_iconst (v := nI 0) hx hb dL_limit_15 (by decide) ?_
  refine W.widen (k := 1) (n := 6) (by decide) (by decide) ?_
  subst hQ
  exact r_i hx hb hr rfl hlk hw ⟨rfl, rfl⟩ dL_limit_16
def rm_c_L_limit_arg : Room := { frames := 8, cells := 1, slots := 6, locals := 123 }
set_option maxHeartbeats 4000000 in
set_option maxRecDepth 100000 in
theorem c_L_limit_arg (l : Launch) (D : va_G) (cI cZ cB cJ : ClassId) (b0 : Nat) (adK adV : Nat → Nat) (hls : l.stackTraces = false) (x0 z0 e0 s0 u0 t0 k0 r0 g0 w0 y0 q0 : Nat) (dy : Nat) (v : Int32) (ot : Nat → Int64) (hbad : ¬ (0 ≤ v ∧ v ≤ nI 600)) : Mi l yL_limit wsL_limit rm_c_L_limit_arg D (TYs cI cZ cB cJ) b0 adK adV [.ref x0, .int v, .ref q0] [(x0, .inr (9, [.ref z0, .ref e0, .ref s0, .ref u0, .ref t0, .ref k0, .ref r0, .ref g0, .ref w0, .ref y0, .int (nI dy)])), (q0, .inl (cJ, 1, .inr (.inl ot)))] (fun (r : Int32) (w : va_W) => r = nI 1 ∧ w = [(x0, .inr (9, [.ref z0, .ref e0, .ref s0, .ref u0, .ref t0, .ref k0, .ref r0, .ref g0, .ref w0, .ref y0, .int (nI dy)])), (q0, .inl (cJ, 1, .inr (.inl ot)))]) 1 6 := by
  refine e_W (Qf := fun A => va_Qi (fun (r : Int32) (w : va_W) => r = nI 1 ∧ w = [(x0, .inr (9, [.ref z0, .ref e0, .ref s0, .ref u0, .ref t0, .ref k0, .ref r0, .ref g0, .ref w0, .ref y0, .int (nI dy)])), (q0, .inl (cJ, 1, .inr (.inl ot)))]) (Bw D A) A) (cc := cL_limit) (maxL := 4) (ret := (some .int)) (hh := [(0, 9, 12, 13)]) (by decide) rfl (Nat.le_of_ble_eq_true rfl) ?_
  intro p e s m args below meth c ls A Q H locs hx hb hr hml htb hts hown hlk hnm hc hw hl hQ
  have hl : lv_has ls 4 [(0, .ref x0), (1, .int v), (2, .ref q0)] := hl
  have lk_0 := hts (.classLink RL 13 "java/lang/IllegalArgumentException") (List.mem_of_getElem? (i := 1) rfl)
  refine lv_aload_n hx hb dL_limit_0 rfl (lv_at hl 2 rfl) ?_
  refine lv_iconst (v := nI 0) hx hb dL_limit_1 (by decide) ?_
  refine lv_aload_n hx hb dL_limit_2 rfl (lv_at hl 0 rfl) ?_
  refine lv_iload_n hx hb dL_limit_3 rfl (lv_at hl 1 rfl) ?_
  refine kx_i (wr := [(q0, .inl (cJ, 1, .inr (.inl ot)))]) (jx_V ⟨hx, hb, hml, hown, hts⟩ (c_X9_limit_arg l D cI cZ cB cJ b0 adK adV hls x0 z0 e0 s0 u0 t0 k0 r0 g0 w0 y0 dy v hbad H.size) (cwV 1 hts gL_limit_X9_limit rfl rfl rfl (by decide +kernel) ⟨by decide, by decide⟩) hc hw [0] rfl rfl 9 0 rfl rfl rfl rfl hl.1 rfl (Nat.le_of_ble_eq_true rfl) dL_limit_4 ⟨by decide, by decide⟩) hc hw [0] [1] rfl rfl (by decide) (by decide) (fun E ce qx w H locs hq hw hq1 hq2 hq3 => ?_) (fun r w H locs hq hw => ?_)
  · obtain ⟨hqE, rfl⟩ := hq
    have hw : Wd D A s H locs [(x0, .inr (9, [.ref z0, .ref e0, .ref s0, .ref u0, .ref t0, .ref k0, .ref r0, .ref g0, .ref w0, .ref y0, .int (nI dy)])), (q0, .inl (cJ, 1, .inr (.inl ot)))] := hw.sub [1, 0] (by decide) rfl
    subst hqE
    refine vx_catch (name := "java/lang/IllegalArgumentException") hown [] ⟨0, 9, 12, 13⟩ [] (htb.trans rfl) (fun z hz => absurd hz List.not_mem_nil) (by decide) (by decide) lk_0 (va_Nw.use rfl (am_ex hc 0 rfl)) hq1 hq2 hq3 ?_
    refine W.widen (k := 1) (n := 6) (by decide) (by decide) ?_
    refine lv_astore_n (lv' := [(3, .ref qx), (0, .ref x0), (1, .int v), (2, .ref q0)]) hx hb dL_limit_12 rfl hl (by decide) rfl (fun ls hl => ?_)
    refine lv_iconst (v := nI 1) hx hb dL_limit_13 (by decide) ?_
    subst hQ
    exact r_i hx hb hr rfl hlk hw ⟨rfl, rfl⟩ dL_limit_14
  · skip
    exact hq.1.elim
def rm_c_L_rule_arg : Room := { frames := 8, cells := 1, slots := 6, locals := 124 }
set_option maxHeartbeats 4000000 in
set_option maxRecDepth 100000 in
theorem c_L_rule_arg (l : Launch) (D : va_G) (cI cZ cB cJ : ClassId) (b0 : Nat) (adK adV : Nat → Nat) (hls : l.stackTraces = false) (x0 z0 e0 s0 u0 t0 k0 r0 g0 w0 y0 t1 q0 : Nat) (dy : Nat) (bt : Nat → Nat) (tn : Nat) (v : Int32) (ot : Nat → Int64) (hn : tn ≤ 100) (hbad : ¬ (0 ≤ v ∧ v ≤ nI tn)) : Mi l yL_rule wsL_rule rm_c_L_rule_arg D (TYs cI cZ cB cJ) b0 adK adV [.ref x0, .int v, .ref q0] [(x0, .inr (9, [.ref z0, .ref e0, .ref s0, .ref u0, .ref t0, .ref k0, .ref r0, .ref g0, .ref w0, .ref y0, .int (nI dy)])), (t0, .inr (8, [.ref t1, .int (nI tn)])), (t1, .inl (cI, 100, .inl (nF bt))), (q0, .inl (cJ, 1, .inr (.inl ot)))] (fun (r : Int32) (w : va_W) => r = nI 1 ∧ w = [(x0, .inr (9, [.ref z0, .ref e0, .ref s0, .ref u0, .ref t0, .ref k0, .ref r0, .ref g0, .ref w0, .ref y0, .int (nI dy)])), (t0, .inr (8, [.ref t1, .int (nI tn)])), (t1, .inl (cI, 100, .inl (nF bt))), (q0, .inl (cJ, 1, .inr (.inl ot)))]) 1 6 := by
  refine e_W (Qf := fun A => va_Qi (fun (r : Int32) (w : va_W) => r = nI 1 ∧ w = [(x0, .inr (9, [.ref z0, .ref e0, .ref s0, .ref u0, .ref t0, .ref k0, .ref r0, .ref g0, .ref w0, .ref y0, .int (nI dy)])), (t0, .inr (8, [.ref t1, .int (nI tn)])), (t1, .inl (cI, 100, .inl (nF bt))), (q0, .inl (cJ, 1, .inr (.inl ot)))]) (Bw D A) A) (cc := cL_rule) (maxL := 4) (ret := (some .int)) (hh := [(0, 9, 12, 13)]) (by decide) rfl (Nat.le_of_ble_eq_true rfl) ?_
  intro p e s m args below meth c ls A Q H locs hx hb hr hml htb hts hown hlk hnm hc hw hl hQ
  have hl : lv_has ls 4 [(0, .ref x0), (1, .int v), (2, .ref q0)] := hl
  have lk_0 := hts (.classLink RL 13 "java/lang/IllegalArgumentException") (List.mem_of_getElem? (i := 1) rfl)
  refine lv_aload_n hx hb dL_rule_0 rfl (lv_at hl 2 rfl) ?_
  refine lv_iconst (v := nI 0) hx hb dL_rule_1 (by decide) ?_
  refine lv_aload_n hx hb dL_rule_2 rfl (lv_at hl 0 rfl) ?_
  refine lv_iload_n hx hb dL_rule_3 rfl (lv_at hl 1 rfl) ?_
  refine kx_i (wr := [(q0, .inl (cJ, 1, .inr (.inl ot)))]) (jx_V ⟨hx, hb, hml, hown, hts⟩ (c_X9_rule_arg l D cI cZ cB cJ b0 adK adV hls x0 z0 e0 s0 u0 t0 k0 r0 g0 w0 y0 t1 dy bt tn v hn hbad H.size) (cwV 1 hts gL_rule_X9_rule rfl rfl rfl (by decide +kernel) ⟨by decide, by decide⟩) hc hw [0, 1, 2] rfl rfl 9 0 rfl rfl rfl rfl hl.1 rfl (Nat.le_of_ble_eq_true rfl) dL_rule_4 ⟨by decide, by decide⟩) hc hw [0, 1, 2] [3] rfl rfl (by decide) (by decide) (fun E ce qx w H locs hq hw hq1 hq2 hq3 => ?_) (fun r w H locs hq hw => ?_)
  · obtain ⟨hqE, rfl⟩ := hq
    have hw : Wd D A s H locs [(x0, .inr (9, [.ref z0, .ref e0, .ref s0, .ref u0, .ref t0, .ref k0, .ref r0, .ref g0, .ref w0, .ref y0, .int (nI dy)])), (t0, .inr (8, [.ref t1, .int (nI tn)])), (t1, .inl (cI, 100, .inl (nF bt))), (q0, .inl (cJ, 1, .inr (.inl ot)))] := hw.sub [1, 2, 3, 0] (by decide) rfl
    subst hqE
    refine vx_catch (name := "java/lang/IllegalArgumentException") hown [] ⟨0, 9, 12, 13⟩ [] (htb.trans rfl) (fun z hz => absurd hz List.not_mem_nil) (by decide) (by decide) lk_0 (va_Nw.use rfl (am_ex hc 0 rfl)) hq1 hq2 hq3 ?_
    refine W.widen (k := 1) (n := 6) (by decide) (by decide) ?_
    refine lv_astore_n (lv' := [(3, .ref qx), (0, .ref x0), (1, .int v), (2, .ref q0)]) hx hb dL_rule_12 rfl hl (by decide) rfl (fun ls hl => ?_)
    refine lv_iconst (v := nI 1) hx hb dL_rule_13 (by decide) ?_
    subst hQ
    exact r_i hx hb hr rfl hlk hw ⟨rfl, rfl⟩ dL_rule_14
  · skip
    exact hq.1.elim
def rm_c_L_rule_no : Room := { frames := 9, cells := 1, slots := 6, locals := 192 }
set_option maxHeartbeats 4000000 in
set_option maxRecDepth 100000 in
theorem c_L_rule_no (l : Launch) (D : va_G) (cI cZ cB cJ : ClassId) (b0 : Nat) (adK adV : Nat → Nat) (x0 z0 e0 s0 u0 t0 k0 r0 g0 w0 y0 t1 d0 d1 d2 k1 k2 q0 : Nat) (dy : Nat) (bt : Nat → Nat) (tn : Nat) (rl : Nat) (ra : Nat) (rw_ : Nat) (dm : Nat → Nat) (du : Nat → Bool) (dn : Nat) (ms : Nat → Nat) (up : Nat → Bool) (nk : Nat) (k : Nat) (ot : Nat → Int64) (hn : tn ≤ 100) (hk : k ≤ tn) (hB : ∀ k, bt k < 256) (hpr : (prs bt k 6 [] 0).1 = none) : Mi l yL_rule wsL_rule rm_c_L_rule_no D (TYs cI cZ cB cJ) b0 adK adV [.ref x0, .int (nI k), .ref q0] [(x0, .inr (9, [.ref z0, .ref e0, .ref s0, .ref u0, .ref t0, .ref k0, .ref r0, .ref g0, .ref w0, .ref y0, .int (nI dy)])), (t0, .inr (8, [.ref t1, .int (nI tn)])), (t1, .inl (cI, 100, .inl (nF bt))), (r0, .inr (6, [.ref t0, .ref d0, .int (nI rl), .int (nI ra), .int (nI rw_)])), (d0, .inr (2, [.ref d1, .ref d2, .int (nI dn)])), (d1, .inl (cI, 6, .inl (nF dm))), (d2, .inl (cZ, 6, .inl (zF du))), (k0, .inr (2, [.ref k1, .ref k2, .int (nI nk)])), (k1, .inl (cI, 6, .inl (nF ms))), (k2, .inl (cZ, 6, .inl (zF up))), (q0, .inl (cJ, 1, .inr (.inl ot)))] (fun (r : Int32) (w : va_W) => ∃ (a9 : Nat) (w9 : Nat) (ms9 : Nat → Nat) (up9 : Nat → Bool) (n9 : Nat), r = nI 0 ∧ w = [(x0, .inr (9, [.ref z0, .ref e0, .ref s0, .ref u0, .ref t0, .ref k0, .ref r0, .ref g0, .ref w0, .ref y0, .int (nI dy)])), (t0, .inr (8, [.ref t1, .int (nI 0)])), (t1, .inl (cI, 100, .inl (nF bt))), (r0, .inr (6, [.ref t0, .ref d0, .int (nI k), .int (nI a9), .int (nI w9)])), (d0, .inr (2, [.ref d1, .ref d2, .int (nI n9)])), (d1, .inl (cI, 6, .inl (nF ms9))), (d2, .inl (cZ, 6, .inl (zF up9))), (k0, .inr (2, [.ref k1, .ref k2, .int (nI nk)])), (k1, .inl (cI, 6, .inl (nF ms))), (k2, .inl (cZ, 6, .inl (zF up))), (q0, .inl (cJ, 1, .inr (.inl (vp_updL ot 0 (((-2) - nI ((prs bt k 6 [] 0).2)).toInt64)))))]) 1 6 := by
  refine e_W (Qf := fun A => va_Qi (fun (r : Int32) (w : va_W) => ∃ (a9 : Nat) (w9 : Nat) (ms9 : Nat → Nat) (up9 : Nat → Bool) (n9 : Nat), r = nI 0 ∧ w = [(x0, .inr (9, [.ref z0, .ref e0, .ref s0, .ref u0, .ref t0, .ref k0, .ref r0, .ref g0, .ref w0, .ref y0, .int (nI dy)])), (t0, .inr (8, [.ref t1, .int (nI 0)])), (t1, .inl (cI, 100, .inl (nF bt))), (r0, .inr (6, [.ref t0, .ref d0, .int (nI k), .int (nI a9), .int (nI w9)])), (d0, .inr (2, [.ref d1, .ref d2, .int (nI n9)])), (d1, .inl (cI, 6, .inl (nF ms9))), (d2, .inl (cZ, 6, .inl (zF up9))), (k0, .inr (2, [.ref k1, .ref k2, .int (nI nk)])), (k1, .inl (cI, 6, .inl (nF ms))), (k2, .inl (cZ, 6, .inl (zF up))), (q0, .inl (cJ, 1, .inr (.inl (vp_updL ot 0 (((-2) - nI ((prs bt k 6 [] 0).2)).toInt64)))))]) (Bw D A) A) (cc := cL_rule) (maxL := 4) (ret := (some .int)) (hh := [(0, 9, 12, 13)]) (by decide) rfl (Nat.le_of_ble_eq_true rfl) ?_
  intro p e s m args below meth c ls A Q H locs hx hb hr hml htb hts hown hlk hnm hc hw hl hQ
  have hl : lv_has ls 4 [(0, .ref x0), (1, .int (nI k)), (2, .ref q0)] := hl
  refine lv_aload_n hx hb dL_rule_0 rfl (lv_at hl 2 rfl) ?_
  refine lv_iconst (v := nI 0) hx hb dL_rule_1 (by decide) ?_
  refine lv_aload_n hx hb dL_rule_2 rfl (lv_at hl 0 rfl) ?_
  refine lv_iload_n hx hb dL_rule_3 rfl (lv_at hl 1 rfl) ?_
  refine k_i (wr := [(q0, .inl (cJ, 1, .inr (.inl ot)))]) (j_V ⟨hx, hb, hml, hown, hts⟩ (c_X9_rule_no l D cI cZ cB cJ b0 adK adV x0 z0 e0 s0 u0 t0 k0 r0 g0 w0 y0 t1 d0 d1 d2 k1 k2 dy bt tn rl ra rw_ dm du dn ms up nk k hn hk hB hpr H.size) (cwV 1 hts gL_rule_X9_rule rfl rfl rfl (by decide +kernel) ⟨by decide, by decide⟩) hc hw [0, 1, 2, 3, 4, 5, 6, 7, 8, 9] rfl rfl 9 0 rfl rfl rfl rfl hl.1 rfl (Nat.le_of_ble_eq_true rfl) dL_rule_4 ⟨by decide, by decide⟩) hc hw [0, 1, 2, 3, 4, 5, 6, 7, 8, 9] [10] rfl rfl (by decide) (by decide) (fun r w H locs hq hw => ?_)
  obtain ⟨a9_1, w9_2, ms9_3, up9_4, n9_5, rfl, rfl⟩ := hq
  have hw : Wd D A s H locs [(x0, .inr (9, [.ref z0, .ref e0, .ref s0, .ref u0, .ref t0, .ref k0, .ref r0, .ref g0, .ref w0, .ref y0, .int (nI dy)])), (t0, .inr (8, [.ref t1, .int (nI 0)])), (t1, .inl (cI, 100, .inl (nF bt))), (r0, .inr (6, [.ref t0, .ref d0, .int (nI k), .int (nI a9_1), .int (nI w9_2)])), (d0, .inr (2, [.ref d1, .ref d2, .int (nI n9_5)])), (d1, .inl (cI, 6, .inl (nF ms9_3))), (d2, .inl (cZ, 6, .inl (zF up9_4))), (k0, .inr (2, [.ref k1, .ref k2, .int (nI nk)])), (k1, .inl (cI, 6, .inl (nF ms))), (k2, .inl (cZ, 6, .inl (zF up))), (q0, .inl (cJ, 1, .inr (.inl ot)))] := hw.sub [1, 2, 3, 4, 5, 6, 7, 8, 9, 10, 0] (by decide) rfl
  refine lv_i2l (v := ((-2) - nI ((prs bt k 6 [] 0).2)).toInt64) hx hb dL_rule_7 rfl ?_
  refine w_last (ws1 := [(x0, .inr (9, [.ref z0, .ref e0, .ref s0, .ref u0, .ref t0, .ref k0, .ref r0, .ref g0, .ref w0, .ref y0, .int (nI dy)])), (t0, .inr (8, [.ref t1, .int (nI 0)])), (t1, .inl (cI, 100, .inl (nF bt))), (r0, .inr (6, [.ref t0, .ref d0, .int (nI k), .int (nI a9_1), .int (nI w9_2)])), (d0, .inr (2, [.ref d1, .ref d2, .int (nI n9_5)])), (d1, .inl (cI, 6, .inl (nF ms9_3))), (d2, .inl (cZ, 6, .inl (zF up9_4))), (k0, .inr (2, [.ref k1, .ref k2, .int (nI nk)])), (k1, .inl (cI, 6, .inl (nF ms))), (k2, .inl (cZ, 6, .inl (zF up))), (q0, .inl (cJ, 1, .inr (.inl (vp_updL ot 0 (((-2) - nI ((prs bt k 6 [] 0).2)).toInt64)))))]) hx hb hc hw 10 rfl rfl (i := 0) (by decide) (by decide) rfl dL_rule_8 (fun H locs hw => ?_)
  refine lv_goto (tgt := 15) hx hb dL_rule_9 (by decide) ?_
  refine lv_iconst (v := nI 0) hx hb dL_rule_15 (by decide) ?_
  refine W.widen (k := 1) (n := 6) (by decide) (by decide) ?_
  subst hQ
  exact r_i hx hb hr rfl hlk hw ⟨a9_1, w9_2, ms9_3, up9_4, n9_5, rfl, rfl⟩ dL_rule_16
def rm_c_L_rule : Room := { frames := 9, cells := 1, slots := 6, locals := 192 }
set_option maxHeartbeats 4000000 in
set_option maxRecDepth 100000 in
theorem c_L_rule (l : Launch) (D : va_G) (cI cZ cB cJ : ClassId) (b0 : Nat) (adK adV : Nat → Nat) (x0 z0 e0 s0 u0 t0 k0 r0 g0 w0 y0 t1 d0 d1 d2 k1 k2 q0 : Nat) (dy : Nat) (bt : Nat → Nat) (tn : Nat) (rl : Nat) (ra : Nat) (rw_ : Nat) (dm : Nat → Nat) (du : Nat → Bool) (dn : Nat) (ms : Nat → Nat) (up : Nat → Bool) (nk : Nat) (k : Nat) (acc : List (Nat × Bool)) (ot : Nat → Int64) (hn : tn ≤ 100) (hk : k ≤ tn) (hB : ∀ k, bt k < 256) (hpr : (prs bt k 6 [] 0).1 = some acc) : Mi l yL_rule wsL_rule rm_c_L_rule D (TYs cI cZ cB cJ) b0 adK adV [.ref x0, .int (nI k), .ref q0] [(x0, .inr (9, [.ref z0, .ref e0, .ref s0, .ref u0, .ref t0, .ref k0, .ref r0, .ref g0, .ref w0, .ref y0, .int (nI dy)])), (t0, .inr (8, [.ref t1, .int (nI tn)])), (t1, .inl (cI, 100, .inl (nF bt))), (r0, .inr (6, [.ref t0, .ref d0, .int (nI rl), .int (nI ra), .int (nI rw_)])), (d0, .inr (2, [.ref d1, .ref d2, .int (nI dn)])), (d1, .inl (cI, 6, .inl (nF dm))), (d2, .inl (cZ, 6, .inl (zF du))), (k0, .inr (2, [.ref k1, .ref k2, .int (nI nk)])), (k1, .inl (cI, 6, .inl (nF ms))), (k2, .inl (cZ, 6, .inl (zF up))), (q0, .inl (cJ, 1, .inr (.inl ot)))] (fun (r : Int32) (w : va_W) => ∃ (a9 : Nat) (w9 : Nat) (ms9 : Nat → Nat) (up9 : Nat → Bool) (n9 : Nat) (ms1 : Nat → Nat) (up1 : Nat → Bool), (∀ (i : Nat) (q : Nat × Bool), acc[i]? = some q → ms1 i = q.1 ∧ up1 i = q.2) ∧ r = nI 0 ∧ w = [(x0, .inr (9, [.ref z0, .ref e0, .ref s0, .ref u0, .ref t0, .ref k0, .ref r0, .ref g0, .ref w0, .ref y0, .int (nI dy)])), (t0, .inr (8, [.ref t1, .int (nI 0)])), (t1, .inl (cI, 100, .inl (nF bt))), (r0, .inr (6, [.ref t0, .ref d0, .int (nI k), .int (nI a9), .int (nI w9)])), (d0, .inr (2, [.ref d1, .ref d2, .int (nI n9)])), (d1, .inl (cI, 6, .inl (nF ms9))), (d2, .inl (cZ, 6, .inl (zF up9))), (k0, .inr (2, [.ref k1, .ref k2, .int (nI (acc.length))])), (k1, .inl (cI, 6, .inl (nF ms1))), (k2, .inl (cZ, 6, .inl (zF up1))), (q0, .inl (cJ, 1, .inr (.inl (vp_updL ot 0 ((nI (acc.length)).toInt64)))))]) 1 6 := by
  refine e_W (Qf := fun A => va_Qi (fun (r : Int32) (w : va_W) => ∃ (a9 : Nat) (w9 : Nat) (ms9 : Nat → Nat) (up9 : Nat → Bool) (n9 : Nat) (ms1 : Nat → Nat) (up1 : Nat → Bool), (∀ (i : Nat) (q : Nat × Bool), acc[i]? = some q → ms1 i = q.1 ∧ up1 i = q.2) ∧ r = nI 0 ∧ w = [(x0, .inr (9, [.ref z0, .ref e0, .ref s0, .ref u0, .ref t0, .ref k0, .ref r0, .ref g0, .ref w0, .ref y0, .int (nI dy)])), (t0, .inr (8, [.ref t1, .int (nI 0)])), (t1, .inl (cI, 100, .inl (nF bt))), (r0, .inr (6, [.ref t0, .ref d0, .int (nI k), .int (nI a9), .int (nI w9)])), (d0, .inr (2, [.ref d1, .ref d2, .int (nI n9)])), (d1, .inl (cI, 6, .inl (nF ms9))), (d2, .inl (cZ, 6, .inl (zF up9))), (k0, .inr (2, [.ref k1, .ref k2, .int (nI (acc.length))])), (k1, .inl (cI, 6, .inl (nF ms1))), (k2, .inl (cZ, 6, .inl (zF up1))), (q0, .inl (cJ, 1, .inr (.inl (vp_updL ot 0 ((nI (acc.length)).toInt64)))))]) (Bw D A) A) (cc := cL_rule) (maxL := 4) (ret := (some .int)) (hh := [(0, 9, 12, 13)]) (by decide) rfl (Nat.le_of_ble_eq_true rfl) ?_
  intro p e s m args below meth c ls A Q H locs hx hb hr hml htb hts hown hlk hnm hc hw hl hQ
  have hl : lv_has ls 4 [(0, .ref x0), (1, .int (nI k)), (2, .ref q0)] := hl
  refine lv_aload_n hx hb dL_rule_0 rfl (lv_at hl 2 rfl) ?_
  refine lv_iconst (v := nI 0) hx hb dL_rule_1 (by decide) ?_
  refine lv_aload_n hx hb dL_rule_2 rfl (lv_at hl 0 rfl) ?_
  refine lv_iload_n hx hb dL_rule_3 rfl (lv_at hl 1 rfl) ?_
  refine k_i (wr := [(q0, .inl (cJ, 1, .inr (.inl ot)))]) (j_V ⟨hx, hb, hml, hown, hts⟩ (c_X9_rule l D cI cZ cB cJ b0 adK adV x0 z0 e0 s0 u0 t0 k0 r0 g0 w0 y0 t1 d0 d1 d2 k1 k2 dy bt tn rl ra rw_ dm du dn ms up nk k acc hn hk hB hpr H.size) (cwV 1 hts gL_rule_X9_rule rfl rfl rfl (by decide +kernel) ⟨by decide, by decide⟩) hc hw [0, 1, 2, 3, 4, 5, 6, 7, 8, 9] rfl rfl 9 0 rfl rfl rfl rfl hl.1 rfl (Nat.le_of_ble_eq_true rfl) dL_rule_4 ⟨by decide, by decide⟩) hc hw [0, 1, 2, 3, 4, 5, 6, 7, 8, 9] [10] rfl rfl (by decide) (by decide) (fun r w H locs hq hw => ?_)
  obtain ⟨a9_1, w9_2, ms9_3, up9_4, n9_5, ms1_6, up1_7, hp_8, rfl, rfl⟩ := hq
  have hw : Wd D A s H locs [(x0, .inr (9, [.ref z0, .ref e0, .ref s0, .ref u0, .ref t0, .ref k0, .ref r0, .ref g0, .ref w0, .ref y0, .int (nI dy)])), (t0, .inr (8, [.ref t1, .int (nI 0)])), (t1, .inl (cI, 100, .inl (nF bt))), (r0, .inr (6, [.ref t0, .ref d0, .int (nI k), .int (nI a9_1), .int (nI w9_2)])), (d0, .inr (2, [.ref d1, .ref d2, .int (nI n9_5)])), (d1, .inl (cI, 6, .inl (nF ms9_3))), (d2, .inl (cZ, 6, .inl (zF up9_4))), (k0, .inr (2, [.ref k1, .ref k2, .int (nI (acc.length))])), (k1, .inl (cI, 6, .inl (nF ms1_6))), (k2, .inl (cZ, 6, .inl (zF up1_7))), (q0, .inl (cJ, 1, .inr (.inl ot)))] := hw.sub [1, 2, 3, 4, 5, 6, 7, 8, 9, 10, 0] (by decide) rfl
  refine lv_i2l (v := (nI (acc.length)).toInt64) hx hb dL_rule_7 rfl ?_
  refine w_last (ws1 := [(x0, .inr (9, [.ref z0, .ref e0, .ref s0, .ref u0, .ref t0, .ref k0, .ref r0, .ref g0, .ref w0, .ref y0, .int (nI dy)])), (t0, .inr (8, [.ref t1, .int (nI 0)])), (t1, .inl (cI, 100, .inl (nF bt))), (r0, .inr (6, [.ref t0, .ref d0, .int (nI k), .int (nI a9_1), .int (nI w9_2)])), (d0, .inr (2, [.ref d1, .ref d2, .int (nI n9_5)])), (d1, .inl (cI, 6, .inl (nF ms9_3))), (d2, .inl (cZ, 6, .inl (zF up9_4))), (k0, .inr (2, [.ref k1, .ref k2, .int (nI (acc.length))])), (k1, .inl (cI, 6, .inl (nF ms1_6))), (k2, .inl (cZ, 6, .inl (zF up1_7))), (q0, .inl (cJ, 1, .inr (.inl (vp_updL ot 0 ((nI (acc.length)).toInt64)))))]) hx hb hc hw 10 rfl rfl (i := 0) (by decide) (by decide) rfl dL_rule_8 (fun H locs hw => ?_)
  refine lv_goto (tgt := 15) hx hb dL_rule_9 (by decide) ?_
  refine lv_iconst (v := nI 0) hx hb dL_rule_15 (by decide) ?_
  refine W.widen (k := 1) (n := 6) (by decide) (by decide) ?_
  subst hQ
  exact r_i hx hb hr rfl hlk hw ⟨a9_1, w9_2, ms9_3, up9_4, n9_5, ms1_6, up1_7, hp_8, rfl, rfl⟩ dL_rule_16
def rm_c_L_rank_arg : Room := { frames := 8, cells := 1, slots := 6, locals := 124 }
set_option maxHeartbeats 4000000 in
set_option maxRecDepth 100000 in
theorem c_L_rank_arg (l : Launch) (D : va_G) (cI cZ cB cJ : ClassId) (b0 : Nat) (adK adV : Nat → Nat) (hls : l.stackTraces = false) (x0 z0 e0 s0 u0 t0 k0 r0 g0 w0 y0 q0 : Nat) (dy : Nat) (kind : Int32) (k : Int32) (ot : Nat → Int64) (hbad : isB kind (nI 3) = false) : Mi l yL_rank wsL_rank rm_c_L_rank_arg D (TYs cI cZ cB cJ) b0 adK adV [.ref x0, .int kind, .int k, .ref q0] [(x0, .inr (9, [.ref z0, .ref e0, .ref s0, .ref u0, .ref t0, .ref k0, .ref r0, .ref g0, .ref w0, .ref y0, .int (nI dy)])), (q0, .inl (cJ, 1, .inr (.inl ot)))] (fun (r : Int32) (w : va_W) => r = nI 1 ∧ w = [(x0, .inr (9, [.ref z0, .ref e0, .ref s0, .ref u0, .ref t0, .ref k0, .ref r0, .ref g0, .ref w0, .ref y0, .int (nI dy)])), (q0, .inl (cJ, 1, .inr (.inl ot)))]) 1 6 := by
  refine e_W (Qf := fun A => va_Qi (fun (r : Int32) (w : va_W) => r = nI 1 ∧ w = [(x0, .inr (9, [.ref z0, .ref e0, .ref s0, .ref u0, .ref t0, .ref k0, .ref r0, .ref g0, .ref w0, .ref y0, .int (nI dy)])), (q0, .inl (cJ, 1, .inr (.inl ot)))]) (Bw D A) A) (cc := cL_rank) (maxL := 5) (ret := (some .int)) (hh := [(0, 10, 13, 13)]) (by decide) rfl (Nat.le_of_ble_eq_true rfl) ?_
  intro p e s m args below meth c ls A Q H locs hx hb hr hml htb hts hown hlk hnm hc hw hl hQ
  have hl : lv_has ls 5 [(0, .ref x0), (1, .int kind), (2, .int k), (3, .ref q0)] := hl
  have lk_0 := hts (.classLink RL 13 "java/lang/IllegalArgumentException") (List.mem_of_getElem? (i := 1) rfl)
  refine lv_aload_n hx hb dL_rank_0 rfl (lv_at hl 3 rfl) ?_
  refine lv_iconst (v := nI 0) hx hb dL_rank_1 (by decide) ?_
  refine lv_aload_n hx hb dL_rank_2 rfl (lv_at hl 0 rfl) ?_
  refine lv_iload_n hx hb dL_rank_3 rfl (lv_at hl 1 rfl) ?_
  refine lv_iload_n hx hb dL_rank_4 rfl (lv_at hl 2 rfl) ?_
  refine kx_i (wr := [(q0, .inl (cJ, 1, .inr (.inl ot)))]) (jx_V ⟨hx, hb, hml, hown, hts⟩ (c_X9_rank_arg l D cI cZ cB cJ b0 adK adV hls x0 z0 e0 s0 u0 t0 k0 r0 g0 w0 y0 dy kind k hbad H.size) (cwV 2 hts gL_rank_X9_rank rfl rfl rfl (by decide +kernel) ⟨by decide, by decide⟩) hc hw [0] rfl rfl 9 0 rfl rfl rfl rfl hl.1 rfl (Nat.le_of_ble_eq_true rfl) dL_rank_5 ⟨by decide, by decide⟩) hc hw [0] [1] rfl rfl (by decide) (by decide) (fun E ce qx w H locs hq hw hq1 hq2 hq3 => ?_) (fun r w H locs hq hw => ?_)
  · obtain ⟨hqE, rfl⟩ := hq
    have hw : Wd D A s H locs [(x0, .inr (9, [.ref z0, .ref e0, .ref s0, .ref u0, .ref t0, .ref k0, .ref r0, .ref g0, .ref w0, .ref y0, .int (nI dy)])), (q0, .inl (cJ, 1, .inr (.inl ot)))] := hw.sub [1, 0] (by decide) rfl
    subst hqE
    refine vx_catch (name := "java/lang/IllegalArgumentException") hown [] ⟨0, 10, 13, 13⟩ [] (htb.trans rfl) (fun z hz => absurd hz List.not_mem_nil) (by decide) (by decide) lk_0 (va_Nw.use rfl (am_ex hc 0 rfl)) hq1 hq2 hq3 ?_
    refine W.widen (k := 1) (n := 6) (by decide) (by decide) ?_
    refine lv_astore (lv' := [(4, .ref qx), (0, .ref x0), (1, .int kind), (2, .int k), (3, .ref q0)]) hx hb dL_rank_13 hl (by decide) rfl (fun ls hl => ?_)
    refine lv_iconst (v := nI 1) hx hb dL_rank_15 (by decide) ?_
    subst hQ
    exact r_i hx hb hr rfl hlk hw ⟨rfl, rfl⟩ dL_rank_16
  · skip
    exact hq.1.elim
def rm_c_L_rank_no : Room := { frames := 2, cells := 1, slots := 6, locals := 43 }
set_option maxHeartbeats 4000000 in
set_option maxRecDepth 100000 in
theorem c_L_rank_no (l : Launch) (D : va_G) (cI cZ cB cJ : ClassId) (b0 : Nat) (adK adV : Nat → Nat) (x0 z0 e0 s0 u0 t0 k0 r0 g0 w0 y0 e1 e2 e3 e4 e5 q0 : Nat) (dy : Nat) (kd : Nat → Int32) (ag : Nat → Int32) (cb : Nat → Nat) (pb : Nat → Nat) (pp : Nat → Nat) (n : Nat) (kind : Int32) (k : Int32) (ot : Nat → Int64) (hkd : isB kind (nI 3) = true) : Mi l yL_rank wsL_rank rm_c_L_rank_no D (TYs cI cZ cB cJ) b0 adK adV [.ref x0, .int kind, .int k, .ref q0] [(x0, .inr (9, [.ref z0, .ref e0, .ref s0, .ref u0, .ref t0, .ref k0, .ref r0, .ref g0, .ref w0, .ref y0, .int (nI dy)])), (e0, .inr (1, [.ref e1, .ref e2, .ref e3, .ref e4, .ref e5, .int (nI n), .int (zI false)])), (e1, .inl (cI, 24, .inl kd)), (e2, .inl (cI, 24, .inl ag)), (e3, .inl (cI, 24, .inl (nF cb))), (e4, .inl (cI, 24, .inl (nF pb))), (e5, .inl (cI, 24, .inl (nF pp))), (q0, .inl (cJ, 1, .inr (.inl ot)))] (fun (r : Int32) (w : va_W) => r = nI 0 ∧ w = [(x0, .inr (9, [.ref z0, .ref e0, .ref s0, .ref u0, .ref t0, .ref k0, .ref r0, .ref g0, .ref w0, .ref y0, .int (nI dy)])), (e0, .inr (1, [.ref e1, .ref e2, .ref e3, .ref e4, .ref e5, .int (nI n), .int (zI false)])), (e1, .inl (cI, 24, .inl kd)), (e2, .inl (cI, 24, .inl ag)), (e3, .inl (cI, 24, .inl (nF cb))), (e4, .inl (cI, 24, .inl (nF pb))), (e5, .inl (cI, 24, .inl (nF pp))), (q0, .inl (cJ, 1, .inr (.inl (vp_updL ot 0 (((-1) : Int32).toInt64)))))]) 1 6 := by
  refine e_W (Qf := fun A => va_Qi (fun (r : Int32) (w : va_W) => r = nI 0 ∧ w = [(x0, .inr (9, [.ref z0, .ref e0, .ref s0, .ref u0, .ref t0, .ref k0, .ref r0, .ref g0, .ref w0, .ref y0, .int (nI dy)])), (e0, .inr (1, [.ref e1, .ref e2, .ref e3, .ref e4, .ref e5, .int (nI n), .int (zI false)])), (e1, .inl (cI, 24, .inl kd)), (e2, .inl (cI, 24, .inl ag)), (e3, .inl (cI, 24, .inl (nF cb))), (e4, .inl (cI, 24, .inl (nF pb))), (e5, .inl (cI, 24, .inl (nF pp))), (q0, .inl (cJ, 1, .inr (.inl (vp_updL ot 0 (((-1) : Int32).toInt64)))))]) (Bw D A) A) (cc := cL_rank) (maxL := 5) (ret := (some .int)) (hh := [(0, 10, 13, 13)]) (by decide) rfl (Nat.le_of_ble_eq_true rfl) ?_
  intro p e s m args below meth c ls A Q H locs hx hb hr hml htb hts hown hlk hnm hc hw hl hQ
  have hl : lv_has ls 5 [(0, .ref x0), (1, .int kind), (2, .int k), (3, .ref q0)] := hl
  refine lv_aload_n hx hb dL_rank_0 rfl (lv_at hl 3 rfl) ?_
  refine lv_iconst (v := nI 0) hx hb dL_rank_1 (by decide) ?_
  refine lv_aload_n hx hb dL_rank_2 rfl (lv_at hl 0 rfl) ?_
  refine lv_iload_n hx hb dL_rank_3 rfl (lv_at hl 1 rfl) ?_
  refine lv_iload_n hx hb dL_rank_4 rfl (lv_at hl 2 rfl) ?_
  refine k_i (wr := [(q0, .inl (cJ, 1, .inr (.inl ot)))]) (j_V ⟨hx, hb, hml, hown, hts⟩ (c_X9_rank_no l D cI cZ cB cJ b0 adK adV x0 z0 e0 s0 u0 t0 k0 r0 g0 w0 y0 e1 e2 e3 e4 e5 dy kd ag cb pb pp n kind k hkd H.size) (cwV 2 hts gL_rank_X9_rank rfl rfl rfl (by decide +kernel) ⟨by decide, by decide⟩) hc hw [0, 1, 2, 3, 4, 5, 6] rfl rfl 9 0 rfl rfl rfl rfl hl.1 rfl (Nat.le_of_ble_eq_true rfl) dL_rank_5 ⟨by decide, by decide⟩) hc hw [0, 1, 2, 3, 4, 5, 6] [7] rfl rfl (by decide) (by decide) (fun r w H locs hq hw => ?_)
  obtain ⟨rfl, rfl⟩ := hq
  have hw : Wd D A s H locs [(x0, .inr (9, [.ref z0, .ref e0, .ref s0, .ref u0, .ref t0, .ref k0, .ref r0, .ref g0, .ref w0, .ref y0, .int (nI dy)])), (e0, .inr (1, [.ref e1, .ref e2, .ref e3, .ref e4, .ref e5, .int (nI n), .int (zI false)])), (e1, .inl (cI, 24, .inl kd)), (e2, .inl (cI, 24, .inl ag)), (e3, .inl (cI, 24, .inl (nF cb))), (e4, .inl (cI, 24, .inl (nF pb))), (e5, .inl (cI, 24, .inl (nF pp))), (q0, .inl (cJ, 1, .inr (.inl ot)))] := hw.sub [1, 2, 3, 4, 5, 6, 7, 0] (by decide) rfl
  refine lv_i2l (v := ((-1) : Int32).toInt64) hx hb dL_rank_8 rfl ?_
  refine w_last (ws1 := [(x0, .inr (9, [.ref z0, .ref e0, .ref s0, .ref u0, .ref t0, .ref k0, .ref r0, .ref g0, .ref w0, .ref y0, .int (nI dy)])), (e0, .inr (1, [.ref e1, .ref e2, .ref e3, .ref e4, .ref e5, .int (nI n), .int (zI false)])), (e1, .inl (cI, 24, .inl kd)), (e2, .inl (cI, 24, .inl ag)), (e3, .inl (cI, 24, .inl (nF cb))), (e4, .inl (cI, 24, .inl (nF pb))), (e5, .inl (cI, 24, .inl (nF pp))), (q0, .inl (cJ, 1, .inr (.inl (vp_updL ot 0 (((-1) : Int32).toInt64)))))]) hx hb hc hw 7 rfl rfl (i := 0) (by decide) (by decide) rfl dL_rank_9 (fun H locs hw => ?_)
  refine lv_goto (tgt := 17) hx hb dL_rank_10 (by decide) ?_
  refine lv_iconst (v := nI 0) hx hb dL_rank_17 (by decide) ?_
  refine W.widen (k := 1) (n := 6) (by decide) (by decide) ?_
  subst hQ
  exact r_i hx hb hr rfl hlk hw ⟨rfl, rfl⟩ dL_rank_18
def rm_c_L_rank : Room := { frames := 6, cells := 1, slots := 6, locals := 136 }
set_option maxHeartbeats 4000000 in
set_option maxRecDepth 100000 in
theorem c_L_rank (l : Launch) (D : va_G) (cI cZ cB cJ : ClassId) (b0 : Nat) (adK adV : Nat → Nat) (x0 z0 e0 s0 u0 t0 k0 r0 g0 w0 y0 g1 e1 e2 e3 e4 e5 s1 s2 s3 s4 s5 u1 u2 k1 k2 q0 : Nat) (dy : Nat) (o : Nat → Nat) (no : Nat) (kd : Nat → Int32) (ag : Nat → Int32) (cb : Nat → Nat) (pb : Nat → Nat) (pp : Nat → Nat) (n : Nat) (mk : Nat → Int32) (hd : Nat → Int32) (td : Nat → Int32) (su : Nat → Int32) (gr : Nat → Int32) (P : Nat) (sz : Int32) (mi : Nat → Int32) (of_ : Nat → Int32) (al : Int32) (ms : Nat → Nat) (up : Nat → Bool) (nk : Nat) (kind : Int32) (k : Nat) (ot : Nat → Int64) (hn : n ≤ 24) (hnk : nk ≤ 6) (hms : ∀ k, k < nk → ms k ≤ 8) (hpb : ∀ x, x < n → pb x < 24) (hkd : isB kind (nI 3) = true) (hk : k < arrN kd kind n) : Mi l yL_rank wsL_rank rm_c_L_rank D (TYs cI cZ cB cJ) b0 adK adV [.ref x0, .int kind, .int (nI k), .ref q0] [(x0, .inr (9, [.ref z0, .ref e0, .ref s0, .ref u0, .ref t0, .ref k0, .ref r0, .ref g0, .ref w0, .ref y0, .int (nI dy)])), (g0, .inr (4, [.ref e0, .ref s0, .ref u0, .ref k0, .ref g1, .int (nI no)])), (g1, .inl (cI, 24, .inl (nF o))), (e0, .inr (1, [.ref e1, .ref e2, .ref e3, .ref e4, .ref e5, .int (nI n), .int (zI true)])), (e1, .inl (cI, 24, .inl kd)), (e2, .inl (cI, 24, .inl ag)), (e3, .inl (cI, 24, .inl (nF cb))), (e4, .inl (cI, 24, .inl (nF pb))), (e5, .inl (cI, 24, .inl (nF pp))), (s0, .inr (7, [.ref s1, .ref s2, .ref s3, .ref s4, .ref s5, .int (nI P), .int sz])), (s1, .inl (cI, 480, .inl mk)), (s2, .inl (cI, 20, .inl hd)), (s3, .inl (cI, 120, .inl td)), (s4, .inl (cI, 24, .inl su)), (s5, .inl (cI, 24, .inl gr)), (u0, .inr (5, [.ref s0, .ref u1, .ref u2, .int al])), (u1, .inl (cI, 24, .inl mi)), (u2, .inl (cI, 24, .inl of_)), (k0, .inr (2, [.ref k1, .ref k2, .int (nI nk)])), (k1, .inl (cI, 6, .inl (nF ms))), (k2, .inl (cZ, 6, .inl (zF up))), (q0, .inl (cJ, 1, .inr (.inl ot)))] (fun (r : Int32) (w : va_W) => r = nI 0 ∧ w = [(x0, .inr (9, [.ref z0, .ref e0, .ref s0, .ref u0, .ref t0, .ref k0, .ref r0, .ref g0, .ref w0, .ref y0, .int (nI dy)])), (g0, .inr (4, [.ref e0, .ref s0, .ref u0, .ref k0, .ref g1, .int (nI (arrN kd kind n))])), (g1, .inl (cI, 24, .inl (nF (arrO (btF ag pb su gr td mi of_ al ms up nk) kd kind o n)))), (e0, .inr (1, [.ref e1, .ref e2, .ref e3, .ref e4, .ref e5, .int (nI n), .int (zI true)])), (e1, .inl (cI, 24, .inl kd)), (e2, .inl (cI, 24, .inl ag)), (e3, .inl (cI, 24, .inl (nF cb))), (e4, .inl (cI, 24, .inl (nF pb))), (e5, .inl (cI, 24, .inl (nF pp))), (s0, .inr (7, [.ref s1, .ref s2, .ref s3, .ref s4, .ref s5, .int (nI P), .int sz])), (s1, .inl (cI, 480, .inl mk)), (s2, .inl (cI, 20, .inl hd)), (s3, .inl (cI, 120, .inl td)), (s4, .inl (cI, 24, .inl su)), (s5, .inl (cI, 24, .inl gr)), (u0, .inr (5, [.ref s0, .ref u1, .ref u2, .int al])), (u1, .inl (cI, 24, .inl mi)), (u2, .inl (cI, 24, .inl of_)), (k0, .inr (2, [.ref k1, .ref k2, .int (nI nk)])), (k1, .inl (cI, 6, .inl (nF ms))), (k2, .inl (cZ, 6, .inl (zF up))), (q0, .inl (cJ, 1, .inr (.inl (vp_updL ot 0 ((nI (arrO (btF ag pb su gr td mi of_ al ms up nk) kd kind o n k)).toInt64)))))]) 1 6 := by
  refine e_W (Qf := fun A => va_Qi (fun (r : Int32) (w : va_W) => r = nI 0 ∧ w = [(x0, .inr (9, [.ref z0, .ref e0, .ref s0, .ref u0, .ref t0, .ref k0, .ref r0, .ref g0, .ref w0, .ref y0, .int (nI dy)])), (g0, .inr (4, [.ref e0, .ref s0, .ref u0, .ref k0, .ref g1, .int (nI (arrN kd kind n))])), (g1, .inl (cI, 24, .inl (nF (arrO (btF ag pb su gr td mi of_ al ms up nk) kd kind o n)))), (e0, .inr (1, [.ref e1, .ref e2, .ref e3, .ref e4, .ref e5, .int (nI n), .int (zI true)])), (e1, .inl (cI, 24, .inl kd)), (e2, .inl (cI, 24, .inl ag)), (e3, .inl (cI, 24, .inl (nF cb))), (e4, .inl (cI, 24, .inl (nF pb))), (e5, .inl (cI, 24, .inl (nF pp))), (s0, .inr (7, [.ref s1, .ref s2, .ref s3, .ref s4, .ref s5, .int (nI P), .int sz])), (s1, .inl (cI, 480, .inl mk)), (s2, .inl (cI, 20, .inl hd)), (s3, .inl (cI, 120, .inl td)), (s4, .inl (cI, 24, .inl su)), (s5, .inl (cI, 24, .inl gr)), (u0, .inr (5, [.ref s0, .ref u1, .ref u2, .int al])), (u1, .inl (cI, 24, .inl mi)), (u2, .inl (cI, 24, .inl of_)), (k0, .inr (2, [.ref k1, .ref k2, .int (nI nk)])), (k1, .inl (cI, 6, .inl (nF ms))), (k2, .inl (cZ, 6, .inl (zF up))), (q0, .inl (cJ, 1, .inr (.inl (vp_updL ot 0 ((nI (arrO (btF ag pb su gr td mi of_ al ms up nk) kd kind o n k)).toInt64)))))]) (Bw D A) A) (cc := cL_rank) (maxL := 5) (ret := (some .int)) (hh := [(0, 10, 13, 13)]) (by decide) rfl (Nat.le_of_ble_eq_true rfl) ?_
  intro p e s m args below meth c ls A Q H locs hx hb hr hml htb hts hown hlk hnm hc hw hl hQ
  have hl : lv_has ls 5 [(0, .ref x0), (1, .int kind), (2, .int (nI k)), (3, .ref q0)] := hl
  refine lv_aload_n hx hb dL_rank_0 rfl (lv_at hl 3 rfl) ?_
  refine lv_iconst (v := nI 0) hx hb dL_rank_1 (by decide) ?_
  refine lv_aload_n hx hb dL_rank_2 rfl (lv_at hl 0 rfl) ?_
  refine lv_iload_n hx hb dL_rank_3 rfl (lv_at hl 1 rfl) ?_
  refine lv_iload_n hx hb dL_rank_4 rfl (lv_at hl 2 rfl) ?_
  refine k_i (wr := [(q0, .inl (cJ, 1, .inr (.inl ot)))]) (j_V ⟨hx, hb, hml, hown, hts⟩ (c_X9_rank l D cI cZ cB cJ b0 adK adV x0 z0 e0 s0 u0 t0 k0 r0 g0 w0 y0 g1 e1 e2 e3 e4 e5 s1 s2 s3 s4 s5 u1 u2 k1 k2 dy o no kd ag cb pb pp n mk hd td su gr P sz mi of_ al ms up nk kind k hn hnk hms hpb hkd hk H.size) (cwV 2 hts gL_rank_X9_rank rfl rfl rfl (by decide +kernel) ⟨by decide, by decide⟩) hc hw [0, 1, 2, 3, 4, 5, 6, 7, 8, 9, 10, 11, 12, 13, 14, 15, 16, 17, 18, 19, 20] rfl rfl 9 0 rfl rfl rfl rfl hl.1 rfl (Nat.le_of_ble_eq_true rfl) dL_rank_5 ⟨by decide, by decide⟩) hc hw [0, 1, 2, 3, 4, 5, 6, 7, 8, 9, 10, 11, 12, 13, 14, 15, 16, 17, 18, 19, 20] [21] rfl rfl (by decide) (by decide) (fun r w H locs hq hw => ?_)
  obtain ⟨rfl, rfl⟩ := hq
  have hw : Wd D A s H locs [(x0, .inr (9, [.ref z0, .ref e0, .ref s0, .ref u0, .ref t0, .ref k0, .ref r0, .ref g0, .ref w0, .ref y0, .int (nI dy)])), (g0, .inr (4, [.ref e0, .ref s0, .ref u0, .ref k0, .ref g1, .int (nI (arrN kd kind n))])), (g1, .inl (cI, 24, .inl (nF (arrO (btF ag pb su gr td mi of_ al ms up nk) kd kind o n)))), (e0, .inr (1, [.ref e1, .ref e2, .ref e3, .ref e4, .ref e5, .int (nI n), .int (zI true)])), (e1, .inl (cI, 24, .inl kd)), (e2, .inl (cI, 24, .inl ag)), (e3, .inl (cI, 24, .inl (nF cb))), (e4, .inl (cI, 24, .inl (nF pb))), (e5, .inl (cI, 24, .inl (nF pp))), (s0, .inr (7, [.ref s1, .ref s2, .ref s3, .ref s4, .ref s5, .int (nI P), .int sz])), (s1, .inl (cI, 480, .inl mk)), (s2, .inl (cI, 20, .inl hd)), (s3, .inl (cI, 120, .inl td)), (s4, .inl (cI, 24, .inl su)), (s5, .inl (cI, 24, .inl gr)), (u0, .inr (5, [.ref s0, .ref u1, .ref u2, .int al])), (u1, .inl (cI, 24, .inl mi)), (u2, .inl (cI, 24, .inl of_)), (k0, .inr (2, [.ref k1, .ref k2, .int (nI nk)])), (k1, .inl (cI, 6, .inl (nF ms))), (k2, .inl (cZ, 6, .inl (zF up))), (q0, .inl (cJ, 1, .inr (.inl ot)))] := hw.sub [1, 2, 3, 4, 5, 6, 7, 8, 9, 10, 11, 12, 13, 14, 15, 16, 17, 18, 19, 20, 21, 0] (by decide) rfl
  refine lv_i2l (v := (nI (arrO (btF ag pb su gr td mi of_ al ms up nk) kd kind o n k)).toInt64) hx hb dL_rank_8 rfl ?_
  refine w_last (ws1 := [(x0, .inr (9, [.ref z0, .ref e0, .ref s0, .ref u0, .ref t0, .ref k0, .ref r0, .ref g0, .ref w0, .ref y0, .int (nI dy)])), (g0, .inr (4, [.ref e0, .ref s0, .ref u0, .ref k0, .ref g1, .int (nI (arrN kd kind n))])), (g1, .inl (cI, 24, .inl (nF (arrO (btF ag pb su gr td mi of_ al ms up nk) kd kind o n)))), (e0, .inr (1, [.ref e1, .ref e2, .ref e3, .ref e4, .ref e5, .int (nI n), .int (zI true)])), (e1, .inl (cI, 24, .inl kd)), (e2, .inl (cI, 24, .inl ag)), (e3, .inl (cI, 24, .inl (nF cb))), (e4, .inl (cI, 24, .inl (nF pb))), (e5, .inl (cI, 24, .inl (nF pp))), (s0, .inr (7, [.ref s1, .ref s2, .ref s3, .ref s4, .ref s5, .int (nI P), .int sz])), (s1, .inl (cI, 480, .inl mk)), (s2, .inl (cI, 20, .inl hd)), (s3, .inl (cI, 120, .inl td)), (s4, .inl (cI, 24, .inl su)), (s5, .inl (cI, 24, .inl gr)), (u0, .inr (5, [.ref s0, .ref u1, .ref u2, .int al])), (u1, .inl (cI, 24, .inl mi)), (u2, .inl (cI, 24, .inl of_)), (k0, .inr (2, [.ref k1, .ref k2, .int (nI nk)])), (k1, .inl (cI, 6, .inl (nF ms))), (k2, .inl (cZ, 6, .inl (zF up))), (q0, .inl (cJ, 1, .inr (.inl (vp_updL ot 0 ((nI (arrO (btF ag pb su gr td mi of_ al ms up nk) kd kind o n k)).toInt64)))))]) hx hb hc hw 21 rfl rfl (i := 0) (by decide) (by decide) rfl dL_rank_9 (fun H locs hw => ?_)
  refine lv_goto (tgt := 17) hx hb dL_rank_10 (by decide) ?_
  refine lv_iconst (v := nI 0) hx hb dL_rank_17 (by decide) ?_
  refine W.widen (k := 1) (n := 6) (by decide) (by decide) ?_
  subst hQ
  exact r_i hx hb hr rfl hlk hw ⟨rfl, rfl⟩ dL_rank_18
def rm_c_L_rank_out : Room := { frames := 6, cells := 1, slots := 6, locals := 136 }
set_option maxHeartbeats 4000000 in
set_option maxRecDepth 100000 in
theorem c_L_rank_out (l : Launch) (D : va_G) (cI cZ cB cJ : ClassId) (b0 : Nat) (adK adV : Nat → Nat) (x0 z0 e0 s0 u0 t0 k0 r0 g0 w0 y0 g1 e1 e2 e3 e4 e5 s1 s2 s3 s4 s5 u1 u2 k1 k2 q0 : Nat) (dy : Nat) (o : Nat → Nat) (no : Nat) (kd : Nat → Int32) (ag : Nat → Int32) (cb : Nat → Nat) (pb : Nat → Nat) (pp : Nat → Nat) (n : Nat) (mk : Nat → Int32) (hd : Nat → Int32) (td : Nat → Int32) (su : Nat → Int32) (gr : Nat → Int32) (P : Nat) (sz : Int32) (mi : Nat → Int32) (of_ : Nat → Int32) (al : Int32) (ms : Nat → Nat) (up : Nat → Bool) (nk : Nat) (kind : Int32) (k : Int32) (ot : Nat → Int64) (hn : n ≤ 24) (hnk : nk ≤ 6) (hms : ∀ k, k < nk → ms k ≤ 8) (hpb : ∀ x, x < n → pb x < 24) (hkd : isB kind (nI 3) = true) (hk : isB k (nI (arrN kd kind n)) = false) : Mi l yL_rank wsL_rank rm_c_L_rank_out D (TYs cI cZ cB cJ) b0 adK adV [.ref x0, .int kind, .int k, .ref q0] [(x0, .inr (9, [.ref z0, .ref e0, .ref s0, .ref u0, .ref t0, .ref k0, .ref r0, .ref g0, .ref w0, .ref y0, .int (nI dy)])), (g0, .inr (4, [.ref e0, .ref s0, .ref u0, .ref k0, .ref g1, .int (nI no)])), (g1, .inl (cI, 24, .inl (nF o))), (e0, .inr (1, [.ref e1, .ref e2, .ref e3, .ref e4, .ref e5, .int (nI n), .int (zI true)])), (e1, .inl (cI, 24, .inl kd)), (e2, .inl (cI, 24, .inl ag)), (e3, .inl (cI, 24, .inl (nF cb))), (e4, .inl (cI, 24, .inl (nF pb))), (e5, .inl (cI, 24, .inl (nF pp))), (s0, .inr (7, [.ref s1, .ref s2, .ref s3, .ref s4, .ref s5, .int (nI P), .int sz])), (s1, .inl (cI, 480, .inl mk)), (s2, .inl (cI, 20, .inl hd)), (s3, .inl (cI, 120, .inl td)), (s4, .inl (cI, 24, .inl su)), (s5, .inl (cI, 24, .inl gr)), (u0, .inr (5, [.ref s0, .ref u1, .ref u2, .int al])), (u1, .inl (cI, 24, .inl mi)), (u2, .inl (cI, 24, .inl of_)), (k0, .inr (2, [.ref k1, .ref k2, .int (nI nk)])), (k1, .inl (cI, 6, .inl (nF ms))), (k2, .inl (cZ, 6, .inl (zF up))), (q0, .inl (cJ, 1, .inr (.inl ot)))] (fun (r : Int32) (w : va_W) => r = nI 0 ∧ w = [(x0, .inr (9, [.ref z0, .ref e0, .ref s0, .ref u0, .ref t0, .ref k0, .ref r0, .ref g0, .ref w0, .ref y0, .int (nI dy)])), (g0, .inr (4, [.ref e0, .ref s0, .ref u0, .ref k0, .ref g1, .int (nI (arrN kd kind n))])), (g1, .inl (cI, 24, .inl (nF (arrO (btF ag pb su gr td mi of_ al ms up nk) kd kind o n)))), (e0, .inr (1, [.ref e1, .ref e2, .ref e3, .ref e4, .ref e5, .int (nI n), .int (zI true)])), (e1, .inl (cI, 24, .inl kd)), (e2, .inl (cI, 24, .inl ag)), (e3, .inl (cI, 24, .inl (nF cb))), (e4, .inl (cI, 24, .inl (nF pb))), (e5, .inl (cI, 24, .inl (nF pp))), (s0, .inr (7, [.ref s1, .ref s2, .ref s3, .ref s4, .ref s5, .int (nI P), .int sz])), (s1, .inl (cI, 480, .inl mk)), (s2, .inl (cI, 20, .inl hd)), (s3, .inl (cI, 120, .inl td)), (s4, .inl (cI, 24, .inl su)), (s5, .inl (cI, 24, .inl gr)), (u0, .inr (5, [.ref s0, .ref u1, .ref u2, .int al])), (u1, .inl (cI, 24, .inl mi)), (u2, .inl (cI, 24, .inl of_)), (k0, .inr (2, [.ref k1, .ref k2, .int (nI nk)])), (k1, .inl (cI, 6, .inl (nF ms))), (k2, .inl (cZ, 6, .inl (zF up))), (q0, .inl (cJ, 1, .inr (.inl (vp_updL ot 0 (((-1) : Int32).toInt64)))))]) 1 6 := by
  refine e_W (Qf := fun A => va_Qi (fun (r : Int32) (w : va_W) => r = nI 0 ∧ w = [(x0, .inr (9, [.ref z0, .ref e0, .ref s0, .ref u0, .ref t0, .ref k0, .ref r0, .ref g0, .ref w0, .ref y0, .int (nI dy)])), (g0, .inr (4, [.ref e0, .ref s0, .ref u0, .ref k0, .ref g1, .int (nI (arrN kd kind n))])), (g1, .inl (cI, 24, .inl (nF (arrO (btF ag pb su gr td mi of_ al ms up nk) kd kind o n)))), (e0, .inr (1, [.ref e1, .ref e2, .ref e3, .ref e4, .ref e5, .int (nI n), .int (zI true)])), (e1, .inl (cI, 24, .inl kd)), (e2, .inl (cI, 24, .inl ag)), (e3, .inl (cI, 24, .inl (nF cb))), (e4, .inl (cI, 24, .inl (nF pb))), (e5, .inl (cI, 24, .inl (nF pp))), (s0, .inr (7, [.ref s1, .ref s2, .ref s3, .ref s4, .ref s5, .int (nI P), .int sz])), (s1, .inl (cI, 480, .inl mk)), (s2, .inl (cI, 20, .inl hd)), (s3, .inl (cI, 120, .inl td)), (s4, .inl (cI, 24, .inl su)), (s5, .inl (cI, 24, .inl gr)), (u0, .inr (5, [.ref s0, .ref u1, .ref u2, .int al])), (u1, .inl (cI, 24, .inl mi)), (u2, .inl (cI, 24, .inl of_)), (k0, .inr (2, [.ref k1, .ref k2, .int (nI nk)])), (k1, .inl (cI, 6, .inl (nF ms))), (k2, .inl (cZ, 6, .inl (zF up))), (q0, .inl (cJ, 1, .inr (.inl (vp_updL ot 0 (((-1) : Int32).toInt64)))))]) (Bw D A) A) (cc := cL_rank) (maxL := 5) (ret := (some .int)) (hh := [(0, 10, 13, 13)]) (by decide) rfl (Nat.le_of_ble_eq_true rfl) ?_
  intro p e s m args below meth c ls A Q H locs hx hb hr hml htb hts hown hlk hnm hc hw hl hQ
  have hl : lv_has ls 5 [(0, .ref x0), (1, .int kind), (2, .int k), (3, .ref q0)] := hl
  refine lv_aload_n hx hb dL_rank_0 rfl (lv_at hl 3 rfl) ?_
  refine lv_iconst (v := nI 0) hx hb dL_rank_1 (by decide) ?_
  refine lv_aload_n hx hb dL_rank_2 rfl (lv_at hl 0 rfl) ?_
  refine lv_iload_n hx hb dL_rank_3 rfl (lv_at hl 1 rfl) ?_
  refine lv_iload_n hx hb dL_rank_4 rfl (lv_at hl 2 rfl) ?_
  refine k_i (wr := [(q0, .inl (cJ, 1, .inr (.inl ot)))]) (j_V ⟨hx, hb, hml, hown, hts⟩ (c_X9_rank_out l D cI cZ cB cJ b0 adK adV x0 z0 e0 s0 u0 t0 k0 r0 g0 w0 y0 g1 e1 e2 e3 e4 e5 s1 s2 s3 s4 s5 u1 u2 k1 k2 dy o no kd ag cb pb pp n mk hd td su gr P sz mi of_ al ms up nk kind k hn hnk hms hpb hkd hk H.size) (cwV 2 hts gL_rank_X9_rank rfl rfl rfl (by decide +kernel) ⟨by decide, by decide⟩) hc hw [0, 1, 2, 3, 4, 5, 6, 7, 8, 9, 10, 11, 12, 13, 14, 15, 16, 17, 18, 19, 20] rfl rfl 9 0 rfl rfl rfl rfl hl.1 rfl (Nat.le_of_ble_eq_true rfl) dL_rank_5 ⟨by decide, by decide⟩) hc hw [0, 1, 2, 3, 4, 5, 6, 7, 8, 9, 10, 11, 12, 13, 14, 15, 16, 17, 18, 19, 20] [21] rfl rfl (by decide) (by decide) (fun r w H locs hq hw => ?_)
  obtain ⟨rfl, rfl⟩ := hq
  have hw : Wd D A s H locs [(x0, .inr (9, [.ref z0, .ref e0, .ref s0, .ref u0, .ref t0, .ref k0, .ref r0, .ref g0, .ref w0, .ref y0, .int (nI dy)])), (g0, .inr (4, [.ref e0, .ref s0, .ref u0, .ref k0, .ref g1, .int (nI (arrN kd kind n))])), (g1, .inl (cI, 24, .inl (nF (arrO (btF ag pb su gr td mi of_ al ms up nk) kd kind o n)))), (e0, .inr (1, [.ref e1, .ref e2, .ref e3, .ref e4, .ref e5, .int (nI n), .int (zI true)])), (e1, .inl (cI, 24, .inl kd)), (e2, .inl (cI, 24, .inl ag)), (e3, .inl (cI, 24, .inl (nF cb))), (e4, .inl (cI, 24, .inl (nF pb))), (e5, .inl (cI, 24, .inl (nF pp))), (s0, .inr (7, [.ref s1, .ref s2, .ref s3, .ref s4, .ref s5, .int (nI P), .int sz])), (s1, .inl (cI, 480, .inl mk)), (s2, .inl (cI, 20, .inl hd)), (s3, .inl (cI, 120, .inl td)), (s4, .inl (cI, 24, .inl su)), (s5, .inl (cI, 24, .inl gr)), (u0, .inr (5, [.ref s0, .ref u1, .ref u2, .int al])), (u1, .inl (cI, 24, .inl mi)), (u2, .inl (cI, 24, .inl of_)), (k0, .inr (2, [.ref k1, .ref k2, .int (nI nk)])), (k1, .inl (cI, 6, .inl (nF ms))), (k2, .inl (cZ, 6, .inl (zF up))), (q0, .inl (cJ, 1, .inr (.inl ot)))] := hw.sub [1, 2, 3, 4, 5, 6, 7, 8, 9, 10, 11, 12, 13, 14, 15, 16, 17, 18, 19, 20, 21, 0] (by decide) rfl
  refine lv_i2l (v := ((-1) : Int32).toInt64) hx hb dL_rank_8 rfl ?_
  refine w_last (ws1 := [(x0, .inr (9, [.ref z0, .ref e0, .ref s0, .ref u0, .ref t0, .ref k0, .ref r0, .ref g0, .ref w0, .ref y0, .int (nI dy)])), (g0, .inr (4, [.ref e0, .ref s0, .ref u0, .ref k0, .ref g1, .int (nI (arrN kd kind n))])), (g1, .inl (cI, 24, .inl (nF (arrO (btF ag pb su gr td mi of_ al ms up nk) kd kind o n)))), (e0, .inr (1, [.ref e1, .ref e2, .ref e3, .ref e4, .ref e5, .int (nI n), .int (zI true)])), (e1, .inl (cI, 24, .inl kd)), (e2, .inl (cI, 24, .inl ag)), (e3, .inl (cI, 24, .inl (nF cb))), (e4, .inl (cI, 24, .inl (nF pb))), (e5, .inl (cI, 24, .inl (nF pp))), (s0, .inr (7, [.ref s1, .ref s2, .ref s3, .ref s4, .ref s5, .int (nI P), .int sz])), (s1, .inl (cI, 480, .inl mk)), (s2, .inl (cI, 20, .inl hd)), (s3, .inl (cI, 120, .inl td)), (s4, .inl (cI, 24, .inl su)), (s5, .inl (cI, 24, .inl gr)), (u0, .inr (5, [.ref s0, .ref u1, .ref u2, .int al])), (u1, .inl (cI, 24, .inl mi)), (u2, .inl (cI, 24, .inl of_)), (k0, .inr (2, [.ref k1, .ref k2, .int (nI nk)])), (k1, .inl (cI, 6, .inl (nF ms))), (k2, .inl (cZ, 6, .inl (zF up))), (q0, .inl (cJ, 1, .inr (.inl (vp_updL ot 0 (((-1) : Int32).toInt64)))))]) hx hb hc hw 21 rfl rfl (i := 0) (by decide) (by decide) rfl dL_rank_9 (fun H locs hw => ?_)
  refine lv_goto (tgt := 17) hx hb dL_rank_10 (by decide) ?_
  refine lv_iconst (v := nI 0) hx hb dL_rank_17 (by decide) ?_
  refine W.widen (k := 1) (n := 6) (by decide) (by decide) ?_
  subst hQ
  exact r_i hx hb hr rfl hlk hw ⟨rfl, rfl⟩ dL_rank_18
def rm_c_L_protest : Room := { frames := 3, cells := 1, slots := 6, locals := 64 }
set_option maxHeartbeats 4000000 in
set_option maxRecDepth 100000 in
theorem c_L_protest (l : Launch) (D : va_G) (cI cZ cB cJ : ClassId) (b0 : Nat) (adK adV : Nat → Nat) (x0 z0 e0 s0 u0 t0 k0 r0 g0 w0 y0 e1 e2 e3 e4 e5 u1 u2 q0 : Nat) (dy : Nat) (kd : Nat → Int32) (ag : Nat → Int32) (cb : Nat → Nat) (pb : Nat → Nat) (pp : Nat → Nat) (n : Nat) (mi : Nat → Int32) (of_ : Nat → Int32) (al : Int32) (q : Nat) (v : Int32) (ot : Nat → Int64) (hn : n ≤ 24) (hq : q < n) (hv1 : nI 1 ≤ v) (hv2 : v ≤ nI 1000) : Mi l yL_protest wsL_protest rm_c_L_protest D (TYs cI cZ cB cJ) b0 adK adV [.ref x0, .int (nI q), .int v, .ref q0] [(x0, .inr (9, [.ref z0, .ref e0, .ref s0, .ref u0, .ref t0, .ref k0, .ref r0, .ref g0, .ref w0, .ref y0, .int (nI dy)])), (e0, .inr (1, [.ref e1, .ref e2, .ref e3, .ref e4, .ref e5, .int (nI n), .int (zI true)])), (e1, .inl (cI, 24, .inl kd)), (e2, .inl (cI, 24, .inl ag)), (e3, .inl (cI, 24, .inl (nF cb))), (e4, .inl (cI, 24, .inl (nF pb))), (e5, .inl (cI, 24, .inl (nF pp))), (u0, .inr (5, [.ref s0, .ref u1, .ref u2, .int al])), (u1, .inl (cI, 24, .inl mi)), (u2, .inl (cI, 24, .inl of_)), (q0, .inl (cJ, 1, .inr (.inl ot)))] (fun (r : Int32) (w : va_W) => r = nI 0 ∧ w = [(x0, .inr (9, [.ref z0, .ref e0, .ref s0, .ref u0, .ref t0, .ref k0, .ref r0, .ref g0, .ref w0, .ref y0, .int (nI dy)])), (e0, .inr (1, [.ref e1, .ref e2, .ref e3, .ref e4, .ref e5, .int (nI n), .int (zI true)])), (e1, .inl (cI, 24, .inl kd)), (e2, .inl (cI, 24, .inl ag)), (e3, .inl (cI, 24, .inl (nF cb))), (e4, .inl (cI, 24, .inl (nF pb))), (e5, .inl (cI, 24, .inl (nF pp))), (u0, .inr (5, [.ref s0, .ref u1, .ref u2, .int al])), (u1, .inl (cI, 24, .inl mi)), (u2, .inl (cI, 24, .inl (upd of_ q (of_ q + v)))), (q0, .inl (cJ, 1, .inr (.inl (vp_updL ot 0 ((of_ q + v).toInt64)))))]) 1 6 := by
  refine e_W (Qf := fun A => va_Qi (fun (r : Int32) (w : va_W) => r = nI 0 ∧ w = [(x0, .inr (9, [.ref z0, .ref e0, .ref s0, .ref u0, .ref t0, .ref k0, .ref r0, .ref g0, .ref w0, .ref y0, .int (nI dy)])), (e0, .inr (1, [.ref e1, .ref e2, .ref e3, .ref e4, .ref e5, .int (nI n), .int (zI true)])), (e1, .inl (cI, 24, .inl kd)), (e2, .inl (cI, 24, .inl ag)), (e3, .inl (cI, 24, .inl (nF cb))), (e4, .inl (cI, 24, .inl (nF pb))), (e5, .inl (cI, 24, .inl (nF pp))), (u0, .inr (5, [.ref s0, .ref u1, .ref u2, .int al])), (u1, .inl (cI, 24, .inl mi)), (u2, .inl (cI, 24, .inl (upd of_ q (of_ q + v)))), (q0, .inl (cJ, 1, .inr (.inl (vp_updL ot 0 ((of_ q + v).toInt64)))))]) (Bw D A) A) (cc := cL_protest) (maxL := 5) (ret := (some .int)) (hh := [(0, 10, 13, 25), (0, 10, 17, 13)]) (by decide) rfl (Nat.le_of_ble_eq_true rfl) ?_
  intro p e s m args below meth c ls A Q H locs hx hb hr hml htb hts hown hlk hnm hc hw hl hQ
  have hl : lv_has ls 5 [(0, .ref x0), (1, .int (nI q)), (2, .int v), (3, .ref q0)] := hl
  refine lv_aload_n hx hb dL_protest_0 rfl (lv_at hl 3 rfl) ?_
  refine lv_iconst (v := nI 0) hx hb dL_protest_1 (by decide) ?_
  refine lv_aload_n hx hb dL_protest_2 rfl (lv_at hl 0 rfl) ?_
  refine lv_iload_n hx hb dL_protest_3 rfl (lv_at hl 1 rfl) ?_
  refine lv_iload_n hx hb dL_protest_4 rfl (lv_at hl 2 rfl) ?_
  refine k_i (wr := [(q0, .inl (cJ, 1, .inr (.inl ot)))]) (j_V ⟨hx, hb, hml, hown, hts⟩ (c_X9_protest l D cI cZ cB cJ b0 adK adV x0 z0 e0 s0 u0 t0 k0 r0 g0 w0 y0 e1 e2 e3 e4 e5 u1 u2 dy kd ag cb pb pp n mi of_ al q v hn hq hv1 hv2 H.size) (cwV 2 hts gL_protest_X9_protest rfl rfl rfl (by decide +kernel) ⟨by decide, by decide⟩) hc hw [0, 1, 2, 3, 4, 5, 6, 7, 8, 9] rfl rfl 9 0 rfl rfl rfl rfl hl.1 rfl (Nat.le_of_ble_eq_true rfl) dL_protest_5 ⟨by decide, by decide⟩) hc hw [0, 1, 2, 3, 4, 5, 6, 7, 8, 9] [10] rfl rfl (by decide) (by decide) (fun r w H locs hq hw => ?_)
  obtain ⟨rfl, rfl⟩ := hq
  have hw : Wd D A s H locs [(x0, .inr (9, [.ref z0, .ref e0, .ref s0, .ref u0, .ref t0, .ref k0, .ref r0, .ref g0, .ref w0, .ref y0, .int (nI dy)])), (e0, .inr (1, [.ref e1, .ref e2, .ref e3, .ref e4, .ref e5, .int (nI n), .int (zI true)])), (e1, .inl (cI, 24, .inl kd)), (e2, .inl (cI, 24, .inl ag)), (e3, .inl (cI, 24, .inl (nF cb))), (e4, .inl (cI, 24, .inl (nF pb))), (e5, .inl (cI, 24, .inl (nF pp))), (u0, .inr (5, [.ref s0, .ref u1, .ref u2, .int al])), (u1, .inl (cI, 24, .inl mi)), (u2, .inl (cI, 24, .inl (upd of_ q (of_ q + v)))), (q0, .inl (cJ, 1, .inr (.inl ot)))] := hw.sub [1, 2, 3, 4, 5, 6, 7, 8, 9, 10, 0] (by decide) rfl
  refine lv_i2l (v := (of_ q + v).toInt64) hx hb dL_protest_8 rfl ?_
  refine w_last (ws1 := [(x0, .inr (9, [.ref z0, .ref e0, .ref s0, .ref u0, .ref t0, .ref k0, .ref r0, .ref g0, .ref w0, .ref y0, .int (nI dy)])), (e0, .inr (1, [.ref e1, .ref e2, .ref e3, .ref e4, .ref e5, .int (nI n), .int (zI true)])), (e1, .inl (cI, 24, .inl kd)), (e2, .inl (cI, 24, .inl ag)), (e3, .inl (cI, 24, .inl (nF cb))), (e4, .inl (cI, 24, .inl (nF pb))), (e5, .inl (cI, 24, .inl (nF pp))), (u0, .inr (5, [.ref s0, .ref u1, .ref u2, .int al])), (u1, .inl (cI, 24, .inl mi)), (u2, .inl (cI, 24, .inl (upd of_ q (of_ q + v)))), (q0, .inl (cJ, 1, .inr (.inl (vp_updL ot 0 ((of_ q + v).toInt64)))))]) hx hb hc hw 10 rfl rfl (i := 0) (by decide) (by decide) rfl dL_protest_9 (fun H locs hw => ?_)
  refine lv_goto (tgt := 21) hx hb dL_protest_10 (by decide) ?_
  refine lv_iconst (v := nI 0) hx hb dL_protest_21 (by decide) ?_
  refine W.widen (k := 1) (n := 6) (by decide) (by decide) ?_
  subst hQ
  exact r_i hx hb hr rfl hlk hw ⟨rfl, rfl⟩ dL_protest_22
def rm_c_L_protest_ix : Room := { frames := 8, cells := 1, slots := 6, locals := 125 }
set_option maxHeartbeats 4000000 in
set_option maxRecDepth 100000 in
theorem c_L_protest_ix (l : Launch) (D : va_G) (cI cZ cB cJ : ClassId) (b0 : Nat) (adK adV : Nat → Nat) (hls : l.stackTraces = false) (x0 z0 e0 s0 u0 t0 k0 r0 g0 w0 y0 e1 e2 e3 e4 e5 q0 : Nat) (dy : Nat) (kd : Nat → Int32) (ag : Nat → Int32) (cb : Nat → Nat) (pb : Nat → Nat) (pp : Nat → Nat) (n : Nat) (dr : Bool) (q : Int32) (v : Int32) (ot : Nat → Int64) (hi : isB q (nI (pl dr n)) = false) : Mi l yL_protest wsL_protest rm_c_L_protest_ix D (TYs cI cZ cB cJ) b0 adK adV [.ref x0, .int q, .int v, .ref q0] [(x0, .inr (9, [.ref z0, .ref e0, .ref s0, .ref u0, .ref t0, .ref k0, .ref r0, .ref g0, .ref w0, .ref y0, .int (nI dy)])), (e0, .inr (1, [.ref e1, .ref e2, .ref e3, .ref e4, .ref e5, .int (nI n), .int (zI dr)])), (e1, .inl (cI, 24, .inl kd)), (e2, .inl (cI, 24, .inl ag)), (e3, .inl (cI, 24, .inl (nF cb))), (e4, .inl (cI, 24, .inl (nF pb))), (e5, .inl (cI, 24, .inl (nF pp))), (q0, .inl (cJ, 1, .inr (.inl ot)))] (fun (r : Int32) (w : va_W) => r = nI 1 ∧ w = [(x0, .inr (9, [.ref z0, .ref e0, .ref s0, .ref u0, .ref t0, .ref k0, .ref r0, .ref g0, .ref w0, .ref y0, .int (nI dy)])), (e0, .inr (1, [.ref e1, .ref e2, .ref e3, .ref e4, .ref e5, .int (nI n), .int (zI dr)])), (e1, .inl (cI, 24, .inl kd)), (e2, .inl (cI, 24, .inl ag)), (e3, .inl (cI, 24, .inl (nF cb))), (e4, .inl (cI, 24, .inl (nF pb))), (e5, .inl (cI, 24, .inl (nF pp))), (q0, .inl (cJ, 1, .inr (.inl ot)))]) 1 6 := by
  refine e_W (Qf := fun A => va_Qi (fun (r : Int32) (w : va_W) => r = nI 1 ∧ w = [(x0, .inr (9, [.ref z0, .ref e0, .ref s0, .ref u0, .ref t0, .ref k0, .ref r0, .ref g0, .ref w0, .ref y0, .int (nI dy)])), (e0, .inr (1, [.ref e1, .ref e2, .ref e3, .ref e4, .ref e5, .int (nI n), .int (zI dr)])), (e1, .inl (cI, 24, .inl kd)), (e2, .inl (cI, 24, .inl ag)), (e3, .inl (cI, 24, .inl (nF cb))), (e4, .inl (cI, 24, .inl (nF pb))), (e5, .inl (cI, 24, .inl (nF pp))), (q0, .inl (cJ, 1, .inr (.inl ot)))]) (Bw D A) A) (cc := cL_protest) (maxL := 5) (ret := (some .int)) (hh := [(0, 10, 13, 25), (0, 10, 17, 13)]) (by decide) rfl (Nat.le_of_ble_eq_true rfl) ?_
  intro p e s m args below meth c ls A Q H locs hx hb hr hml htb hts hown hlk hnm hc hw hl hQ
  have hl : lv_has ls 5 [(0, .ref x0), (1, .int q), (2, .int v), (3, .ref q0)] := hl
  have lk_0 := hts (.classLink RL 25 "java/lang/IndexOutOfBoundsException") (List.mem_of_getElem? (i := 1) rfl)
  refine lv_aload_n hx hb dL_protest_0 rfl (lv_at hl 3 rfl) ?_
  refine lv_iconst (v := nI 0) hx hb dL_protest_1 (by decide) ?_
  refine lv_aload_n hx hb dL_protest_2 rfl (lv_at hl 0 rfl) ?_
  refine lv_iload_n hx hb dL_protest_3 rfl (lv_at hl 1 rfl) ?_
  refine lv_iload_n hx hb dL_protest_4 rfl (lv_at hl 2 rfl) ?_
  refine kx_i (wr := [(q0, .inl (cJ, 1, .inr (.inl ot)))]) (jx_V ⟨hx, hb, hml, hown, hts⟩ (c_X9_protest_ix l D cI cZ cB cJ b0 adK adV hls x0 z0 e0 s0 u0 t0 k0 r0 g0 w0 y0 e1 e2 e3 e4 e5 dy kd ag cb pb pp n dr q v hi H.size) (cwV 2 hts gL_protest_X9_protest rfl rfl rfl (by decide +kernel) ⟨by decide, by decide⟩) hc hw [0, 1, 2, 3, 4, 5, 6] rfl rfl 9 0 rfl rfl rfl rfl hl.1 rfl (Nat.le_of_ble_eq_true rfl) dL_protest_5 ⟨by decide, by decide⟩) hc hw [0, 1, 2, 3, 4, 5, 6] [7] rfl rfl (by decide) (by decide) (fun E ce qx w H locs hq hw hq1 hq2 hq3 => ?_) (fun r w H locs hq hw => ?_)
  · obtain ⟨hqE, rfl⟩ := hq
    have hw : Wd D A s H locs [(x0, .inr (9, [.ref z0, .ref e0, .ref s0, .ref u0, .ref t0, .ref k0, .ref r0, .ref g0, .ref w0, .ref y0, .int (nI dy)])), (e0, .inr (1, [.ref e1, .ref e2, .ref e3, .ref e4, .ref e5, .int (nI n), .int (zI dr)])), (e1, .inl (cI, 24, .inl kd)), (e2, .inl (cI, 24, .inl ag)), (e3, .inl (cI, 24, .inl (nF cb))), (e4, .inl (cI, 24, .inl (nF pb))), (e5, .inl (cI, 24, .inl (nF pp))), (q0, .inl (cJ, 1, .inr (.inl ot)))] := hw.sub [1, 2, 3, 4, 5, 6, 7, 0] (by decide) rfl
    subst hqE
    refine vx_catch (name := "java/lang/IndexOutOfBoundsException") hown [] ⟨0, 10, 13, 25⟩ [⟨0, 10, 17, 13⟩] (htb.trans rfl) (fun z hz => absurd hz List.not_mem_nil) (by decide) (by decide) lk_0 (va_Nw.use rfl (am_ex hc 2 rfl)) hq1 hq2 hq3 ?_
    refine W.widen (k := 1) (n := 6) (by decide) (by decide) ?_
    refine lv_astore (lv' := [(4, .ref qx), (0, .ref x0), (1, .int q), (2, .int v), (3, .ref q0)]) hx hb dL_protest_13 hl (by decide) rfl (fun ls hl => ?_)
    refine lv_iconst (v := nI 1) hx hb dL_protest_15 (by decide) ?_
    subst hQ
    exact r_i hx hb hr rfl hlk hw ⟨rfl, rfl⟩ dL_protest_16
  · skip
    exact hq.1.elim
def rm_c_L_protest_arg : Room := { frames := 8, cells := 1, slots := 6, locals := 124 }
set_option maxHeartbeats 4000000 in
set_option maxRecDepth 100000 in
theorem c_L_protest_arg (l : Launch) (D : va_G) (cI cZ cB cJ : ClassId) (b0 : Nat) (adK adV : Nat → Nat) (hls : l.stackTraces = false) (x0 z0 e0 s0 u0 t0 k0 r0 g0 w0 y0 e1 e2 e3 e4 e5 q0 : Nat) (dy : Nat) (kd : Nat → Int32) (ag : Nat → Int32) (cb : Nat → Nat) (pb : Nat → Nat) (pp : Nat → Nat) (n : Nat) (q : Nat) (v : Int32) (ot : Nat → Int64) (hn : n ≤ 24) (hq : q < n) (hbad : ¬ (nI 1 ≤ v ∧ v ≤ nI 1000)) : Mi l yL_protest wsL_protest rm_c_L_protest_arg D (TYs cI cZ cB cJ) b0 adK adV [.ref x0, .int (nI q), .int v, .ref q0] [(x0, .inr (9, [.ref z0, .ref e0, .ref s0, .ref u0, .ref t0, .ref k0, .ref r0, .ref g0, .ref w0, .ref y0, .int (nI dy)])), (e0, .inr (1, [.ref e1, .ref e2, .ref e3, .ref e4, .ref e5, .int (nI n), .int (zI true)])), (e1, .inl (cI, 24, .inl kd)), (e2, .inl (cI, 24, .inl ag)), (e3, .inl (cI, 24, .inl (nF cb))), (e4, .inl (cI, 24, .inl (nF pb))), (e5, .inl (cI, 24, .inl (nF pp))), (q0, .inl (cJ, 1, .inr (.inl ot)))] (fun (r : Int32) (w : va_W) => r = nI 2 ∧ w = [(x0, .inr (9, [.ref z0, .ref e0, .ref s0, .ref u0, .ref t0, .ref k0, .ref r0, .ref g0, .ref w0, .ref y0, .int (nI dy)])), (e0, .inr (1, [.ref e1, .ref e2, .ref e3, .ref e4, .ref e5, .int (nI n), .int (zI true)])), (e1, .inl (cI, 24, .inl kd)), (e2, .inl (cI, 24, .inl ag)), (e3, .inl (cI, 24, .inl (nF cb))), (e4, .inl (cI, 24, .inl (nF pb))), (e5, .inl (cI, 24, .inl (nF pp))), (q0, .inl (cJ, 1, .inr (.inl ot)))]) 1 6 := by
  refine e_W (Qf := fun A => va_Qi (fun (r : Int32) (w : va_W) => r = nI 2 ∧ w = [(x0, .inr (9, [.ref z0, .ref e0, .ref s0, .ref u0, .ref t0, .ref k0, .ref r0, .ref g0, .ref w0, .ref y0, .int (nI dy)])), (e0, .inr (1, [.ref e1, .ref e2, .ref e3, .ref e4, .ref e5, .int (nI n), .int (zI true)])), (e1, .inl (cI, 24, .inl kd)), (e2, .inl (cI, 24, .inl ag)), (e3, .inl (cI, 24, .inl (nF cb))), (e4, .inl (cI, 24, .inl (nF pb))), (e5, .inl (cI, 24, .inl (nF pp))), (q0, .inl (cJ, 1, .inr (.inl ot)))]) (Bw D A) A) (cc := cL_protest) (maxL := 5) (ret := (some .int)) (hh := [(0, 10, 13, 25), (0, 10, 17, 13)]) (by decide) rfl (Nat.le_of_ble_eq_true rfl) ?_
  intro p e s m args below meth c ls A Q H locs hx hb hr hml htb hts hown hlk hnm hc hw hl hQ
  have hl : lv_has ls 5 [(0, .ref x0), (1, .int (nI q)), (2, .int v), (3, .ref q0)] := hl
  have lk_0 := hts (.classLink RL 25 "java/lang/IndexOutOfBoundsException") (List.mem_of_getElem? (i := 1) rfl)
  have lk_1 := hts (.classLink RL 13 "java/lang/IllegalArgumentException") (List.mem_of_getElem? (i := 2) rfl)
  refine lv_aload_n hx hb dL_protest_0 rfl (lv_at hl 3 rfl) ?_
  refine lv_iconst (v := nI 0) hx hb dL_protest_1 (by decide) ?_
  refine lv_aload_n hx hb dL_protest_2 rfl (lv_at hl 0 rfl) ?_
  refine lv_iload_n hx hb dL_protest_3 rfl (lv_at hl 1 rfl) ?_
  refine lv_iload_n hx hb dL_protest_4 rfl (lv_at hl 2 rfl) ?_
  refine kx_i (wr := [(q0, .inl (cJ, 1, .inr (.inl ot)))]) (jx_V ⟨hx, hb, hml, hown, hts⟩ (c_X9_protest_arg l D cI cZ cB cJ b0 adK adV hls x0 z0 e0 s0 u0 t0 k0 r0 g0 w0 y0 e1 e2 e3 e4 e5 dy kd ag cb pb pp n q v hn hq hbad H.size) (cwV 2 hts gL_protest_X9_protest rfl rfl rfl (by decide +kernel) ⟨by decide, by decide⟩) hc hw [0, 1, 2, 3, 4, 5, 6] rfl rfl 9 0 rfl rfl rfl rfl hl.1 rfl (Nat.le_of_ble_eq_true rfl) dL_protest_5 ⟨by decide, by decide⟩) hc hw [0, 1, 2, 3, 4, 5, 6] [7] rfl rfl (by decide) (by decide) (fun E ce qx w H locs hq hw hq1 hq2 hq3 => ?_) (fun r w H locs hq hw => ?_)
  · obtain ⟨hqE, rfl⟩ := hq
    have hw : Wd D A s H locs [(x0, .inr (9, [.ref z0, .ref e0, .ref s0, .ref u0, .ref t0, .ref k0, .ref r0, .ref g0, .ref w0, .ref y0, .int (nI dy)])), (e0, .inr (1, [.ref e1, .ref e2, .ref e3, .ref e4, .ref e5, .int (nI n), .int (zI true)])), (e1, .inl (cI, 24, .inl kd)), (e2, .inl (cI, 24, .inl ag)), (e3, .inl (cI, 24, .inl (nF cb))), (e4, .inl (cI, 24, .inl (nF pb))), (e5, .inl (cI, 24, .inl (nF pp))), (q0, .inl (cJ, 1, .inr (.inl ot)))] := hw.sub [1, 2, 3, 4, 5, 6, 7, 0] (by decide) rfl
    subst hqE
    refine vx_catch (name := "java/lang/IllegalArgumentException") hown [⟨0, 10, 13, 25⟩] ⟨0, 10, 17, 13⟩ [] (htb.trans rfl) (fun z hz => by rw [List.mem_singleton.mp hz]; exact Or.inr ⟨by decide, _, lk_0, hc.2.2.2.2.2.2.2.2.2.2.2.2.2.2.2.1⟩) (by decide) (by decide) lk_1 (va_Nw.use rfl (am_ex hc 0 rfl)) hq1 hq2 hq3 ?_
    refine W.widen (k := 1) (n := 6) (by decide) (by decide) ?_
    refine lv_astore (lv' := [(4, .ref qx), (0, .ref x0), (1, .int (nI q)), (2, .int v), (3, .ref q0)]) hx hb dL_protest_17 hl (by decide) rfl (fun ls hl => ?_)
    refine lv_iconst (v := nI 2) hx hb dL_protest_19 (by decide) ?_
    subst hQ
    exact r_i hx hb hr rfl hlk hw ⟨rfl, rfl⟩ dL_protest_20
  · skip
    exact hq.1.elim
def rm_c_L_points : Room := { frames := 2, cells := 1, slots := 6, locals := 46 }
set_option maxHeartbeats 4000000 in
set_option maxRecDepth 100000 in
theorem c_L_points (l : Launch) (D : va_G) (cI cZ cB cJ : ClassId) (b0 : Nat) (adK adV : Nat → Nat) (x0 z0 e0 s0 u0 t0 k0 r0 g0 w0 y0 w1 w2 w3 w4 q0 : Nat) (dy : Nat) (ld : Nat → Int32) (lc : Nat → Int32) (lm : Nat → Int32) (kn : Nat → Int32) (ln : Nat) (cu : Nat) (d : Int32) (ot : Nat → Int64) (hcu : cu < 10) (hln : ln ≤ 600) : Mi l yL_points wsL_points rm_c_L_points D (TYs cI cZ cB cJ) b0 adK adV [.ref x0, .int (nI cu), .int d, .ref q0] [(x0, .inr (9, [.ref z0, .ref e0, .ref s0, .ref u0, .ref t0, .ref k0, .ref r0, .ref g0, .ref w0, .ref y0, .int (nI dy)])), (w0, .inr (0, [.ref w1, .ref w2, .ref w3, .ref w4, .int (nI ln)])), (w1, .inl (cI, 600, .inl ld)), (w2, .inl (cI, 600, .inl lc)), (w3, .inl (cI, 600, .inl lm)), (w4, .inl (cI, 10, .inl kn)), (q0, .inl (cJ, 1, .inr (.inl ot)))] (fun (r : Int32) (w : va_W) => r = nI 0 ∧ w = [(x0, .inr (9, [.ref z0, .ref e0, .ref s0, .ref u0, .ref t0, .ref k0, .ref r0, .ref g0, .ref w0, .ref y0, .int (nI dy)])), (w0, .inr (0, [.ref w1, .ref w2, .ref w3, .ref w4, .int (nI ln)])), (w1, .inl (cI, 600, .inl ld)), (w2, .inl (cI, 600, .inl lc)), (w3, .inl (cI, 600, .inl lm)), (w4, .inl (cI, 10, .inl kn)), (q0, .inl (cJ, 1, .inr (.inl (vp_updL ot 0 ((bk_known lc ld lm (nI cu) d ln).toInt64)))))]) 1 6 := by
  refine e_W (Qf := fun A => va_Qi (fun (r : Int32) (w : va_W) => r = nI 0 ∧ w = [(x0, .inr (9, [.ref z0, .ref e0, .ref s0, .ref u0, .ref t0, .ref k0, .ref r0, .ref g0, .ref w0, .ref y0, .int (nI dy)])), (w0, .inr (0, [.ref w1, .ref w2, .ref w3, .ref w4, .int (nI ln)])), (w1, .inl (cI, 600, .inl ld)), (w2, .inl (cI, 600, .inl lc)), (w3, .inl (cI, 600, .inl lm)), (w4, .inl (cI, 10, .inl kn)), (q0, .inl (cJ, 1, .inr (.inl (vp_updL ot 0 ((bk_known lc ld lm (nI cu) d ln).toInt64)))))]) (Bw D A) A) (cc := cL_points) (maxL := 5) (ret := (some .int)) (hh := [(0, 10, 13, 13)]) (by decide) rfl (Nat.le_of_ble_eq_true rfl) ?_
  intro p e s m args below meth c ls A Q H locs hx hb hr hml htb hts hown hlk hnm hc hw hl hQ
  have hl : lv_has ls 5 [(0, .ref x0), (1, .int (nI cu)), (2, .int d), (3, .ref q0)] := hl
  refine lv_aload_n hx hb dL_points_0 rfl (lv_at hl 3 rfl) ?_
  refine lv_iconst (v := nI 0) hx hb dL_points_1 (by decide) ?_
  refine lv_aload_n hx hb dL_points_2 rfl (lv_at hl 0 rfl) ?_
  refine lv_iload_n hx hb dL_points_3 rfl (lv_at hl 1 rfl) ?_
  refine lv_iload_n hx hb dL_points_4 rfl (lv_at hl 2 rfl) ?_
  refine k_i (wr := [(q0, .inl (cJ, 1, .inr (.inl ot)))]) (j_V ⟨hx, hb, hml, hown, hts⟩ (c_X9_points l D cI cZ cB cJ b0 adK adV x0 z0 e0 s0 u0 t0 k0 r0 g0 w0 y0 w1 w2 w3 w4 dy ld lc lm kn ln cu d hcu hln H.size) (cwV 2 hts gL_points_X9_points rfl rfl rfl (by decide +kernel) ⟨by decide, by decide⟩) hc hw [0, 1, 2, 3, 4, 5] rfl rfl 9 0 rfl rfl rfl rfl hl.1 rfl (Nat.le_of_ble_eq_true rfl) dL_points_5 ⟨by decide, by decide⟩) hc hw [0, 1, 2, 3, 4, 5] [6] rfl rfl (by decide) (by decide) (fun r w H locs hq hw => ?_)
  obtain ⟨rfl, rfl⟩ := hq
  have hw : Wd D A s H locs [(x0, .inr (9, [.ref z0, .ref e0, .ref s0, .ref u0, .ref t0, .ref k0, .ref r0, .ref g0, .ref w0, .ref y0, .int (nI dy)])), (w0, .inr (0, [.ref w1, .ref w2, .ref w3, .ref w4, .int (nI ln)])), (w1, .inl (cI, 600, .inl ld)), (w2, .inl (cI, 600, .inl lc)), (w3, .inl (cI, 600, .inl lm)), (w4, .inl (cI, 10, .inl kn)), (q0, .inl (cJ, 1, .inr (.inl ot)))] := hw.sub [1, 2, 3, 4, 5, 6, 0] (by decide) rfl
  refine lv_i2l (v := (bk_known lc ld lm (nI cu) d ln).toInt64) hx hb dL_points_8 rfl ?_
  refine w_last (ws1 := [(x0, .inr (9, [.ref z0, .ref e0, .ref s0, .ref u0, .ref t0, .ref k0, .ref r0, .ref g0, .ref w0, .ref y0, .int (nI dy)])), (w0, .inr (0, [.ref w1, .ref w2, .ref w3, .ref w4, .int (nI ln)])), (w1, .inl (cI, 600, .inl ld)), (w2, .inl (cI, 600, .inl lc)), (w3, .inl (cI, 600, .inl lm)), (w4, .inl (cI, 10, .inl kn)), (q0, .inl (cJ, 1, .inr (.inl (vp_updL ot 0 ((bk_known lc ld lm (nI cu) d ln).toInt64)))))]) hx hb hc hw 6 rfl rfl (i := 0) (by decide) (by decide) rfl dL_points_9 (fun H locs hw => ?_)
  refine lv_goto (tgt := 17) hx hb dL_points_10 (by decide) ?_
  refine lv_iconst (v := nI 0) hx hb dL_points_17 (by decide) ?_
  refine W.widen (k := 1) (n := 6) (by decide) (by decide) ?_
  subst hQ
  exact r_i hx hb hr rfl hlk hw ⟨rfl, rfl⟩ dL_points_18
def rm_c_L_points_arg : Room := { frames := 8, cells := 1, slots := 6, locals := 124 }
set_option maxHeartbeats 4000000 in
set_option maxRecDepth 100000 in
theorem c_L_points_arg (l : Launch) (D : va_G) (cI cZ cB cJ : ClassId) (b0 : Nat) (adK adV : Nat → Nat) (hls : l.stackTraces = false) (x0 z0 e0 s0 u0 t0 k0 r0 g0 w0 y0 q0 : Nat) (dy : Nat) (cu : Int32) (d : Int32) (ot : Nat → Int64) (hbad : isB cu (nI 10) = false) : Mi l yL_points wsL_points rm_c_L_points_arg D (TYs cI cZ cB cJ) b0 adK adV [.ref x0, .int cu, .int d, .ref q0] [(x0, .inr (9, [.ref z0, .ref e0, .ref s0, .ref u0, .ref t0, .ref k0, .ref r0, .ref g0, .ref w0, .ref y0, .int (nI dy)])), (q0, .inl (cJ, 1, .inr (.inl ot)))] (fun (r : Int32) (w : va_W) => r = nI 1 ∧ w = [(x0, .inr (9, [.ref z0, .ref e0, .ref s0, .ref u0, .ref t0, .ref k0, .ref r0, .ref g0, .ref w0, .ref y0, .int (nI dy)])), (q0, .inl (cJ, 1, .inr (.inl ot)))]) 1 6 := by
  refine e_W (Qf := fun A => va_Qi (fun (r : Int32) (w : va_W) => r = nI 1 ∧ w = [(x0, .inr (9, [.ref z0, .ref e0, .ref s0, .ref u0, .ref t0, .ref k0, .ref r0, .ref g0, .ref w0, .ref y0, .int (nI dy)])), (q0, .inl (cJ, 1, .inr (.inl ot)))]) (Bw D A) A) (cc := cL_points) (maxL := 5) (ret := (some .int)) (hh := [(0, 10, 13, 13)]) (by decide) rfl (Nat.le_of_ble_eq_true rfl) ?_
  intro p e s m args below meth c ls A Q H locs hx hb hr hml htb hts hown hlk hnm hc hw hl hQ
  have hl : lv_has ls 5 [(0, .ref x0), (1, .int cu), (2, .int d), (3, .ref q0)] := hl
  have lk_0 := hts (.classLink RL 13 "java/lang/IllegalArgumentException") (List.mem_of_getElem? (i := 1) rfl)
  refine lv_aload_n hx hb dL_points_0 rfl (lv_at hl 3 rfl) ?_
  refine lv_iconst (v := nI 0) hx hb dL_points_1 (by decide) ?_
  refine lv_aload_n hx hb dL_points_2 rfl (lv_at hl 0 rfl) ?_
  refine lv_iload_n hx hb dL_points_3 rfl (lv_at hl 1 rfl) ?_
  refine lv_iload_n hx hb dL_points_4 rfl (lv_at hl 2 rfl) ?_
  refine kx_i (wr := [(q0, .inl (cJ, 1, .inr (.inl ot)))]) (jx_V ⟨hx, hb, hml, hown, hts⟩ (c_X9_points_arg l D cI cZ cB cJ b0 adK adV hls x0 z0 e0 s0 u0 t0 k0 r0 g0 w0 y0 dy cu d hbad H.size) (cwV 2 hts gL_points_X9_points rfl rfl rfl (by decide +kernel) ⟨by decide, by decide⟩) hc hw [0] rfl rfl 9 0 rfl rfl rfl rfl hl.1 rfl (Nat.le_of_ble_eq_true rfl) dL_points_5 ⟨by decide, by decide⟩) hc hw [0] [1] rfl rfl (by decide) (by decide) (fun E ce qx w H locs hq hw hq1 hq2 hq3 => ?_) (fun r w H locs hq hw => ?_)
  · obtain ⟨hqE, rfl⟩ := hq
    have hw : Wd D A s H locs [(x0, .inr (9, [.ref z0, .ref e0, .ref s0, .ref u0, .ref t0, .ref k0, .ref r0, .ref g0, .ref w0, .ref y0, .int (nI dy)])), (q0, .inl (cJ, 1, .inr (.inl ot)))] := hw.sub [1, 0] (by decide) rfl
    subst hqE
    refine vx_catch (name := "java/lang/IllegalArgumentException") hown [] ⟨0, 10, 13, 13⟩ [] (htb.trans rfl) (fun z hz => absurd hz List.not_mem_nil) (by decide) (by decide) lk_0 (va_Nw.use rfl (am_ex hc 0 rfl)) hq1 hq2 hq3 ?_
    refine W.widen (k := 1) (n := 6) (by decide) (by decide) ?_
    refine lv_astore (lv' := [(4, .ref qx), (0, .ref x0), (1, .int cu), (2, .int d), (3, .ref q0)]) hx hb dL_points_13 hl (by decide) rfl (fun ls hl => ?_)
    refine lv_iconst (v := nI 1) hx hb dL_points_15 (by decide) ?_
    subst hQ
    exact r_i hx hb hr rfl hlk hw ⟨rfl, rfl⟩ dL_points_16
  · skip
    exact hq.1.elim
def rm_c_L_line_0 : Room := { frames := 3, cells := 1, slots := 6, locals := 64 }
set_option maxHeartbeats 4000000 in
set_option maxRecDepth 100000 in
theorem c_L_line_0 (l : Launch) (D : va_G) (cI cZ cB cJ : ClassId) (b0 : Nat) (adK adV : Nat → Nat) (x0 z0 e0 s0 u0 t0 k0 r0 g0 w0 y0 w1 w2 w3 w4 q0 : Nat) (dy : Nat) (ld : Nat → Int32) (lc : Nat → Int32) (lm : Nat → Int32) (kn : Nat → Int32) (ln : Nat) (k : Nat) (ot : Nat → Int64) (hln : ln ≤ 600) (hk : k < ln) : Mi l yL_line wsL_line rm_c_L_line_0 D (TYs cI cZ cB cJ) b0 adK adV [.ref x0, .int (nI k), .int (nI 0), .ref q0] [(x0, .inr (9, [.ref z0, .ref e0, .ref s0, .ref u0, .ref t0, .ref k0, .ref r0, .ref g0, .ref w0, .ref y0, .int (nI dy)])), (w0, .inr (0, [.ref w1, .ref w2, .ref w3, .ref w4, .int (nI ln)])), (w1, .inl (cI, 600, .inl ld)), (w2, .inl (cI, 600, .inl lc)), (w3, .inl (cI, 600, .inl lm)), (w4, .inl (cI, 10, .inl kn)), (q0, .inl (cJ, 1, .inr (.inl ot)))] (fun (r : Int32) (w : va_W) => r = nI 0 ∧ w = [(x0, .inr (9, [.ref z0, .ref e0, .ref s0, .ref u0, .ref t0, .ref k0, .ref r0, .ref g0, .ref w0, .ref y0, .int (nI dy)])), (w0, .inr (0, [.ref w1, .ref w2, .ref w3, .ref w4, .int (nI ln)])), (w1, .inl (cI, 600, .inl ld)), (w2, .inl (cI, 600, .inl lc)), (w3, .inl (cI, 600, .inl lm)), (w4, .inl (cI, 10, .inl kn)), (q0, .inl (cJ, 1, .inr (.inl (vp_updL ot 0 ((ld k).toInt64)))))]) 1 6 := by
  refine e_W (Qf := fun A => va_Qi (fun (r : Int32) (w : va_W) => r = nI 0 ∧ w = [(x0, .inr (9, [.ref z0, .ref e0, .ref s0, .ref u0, .ref t0, .ref k0, .ref r0, .ref g0, .ref w0, .ref y0, .int (nI dy)])), (w0, .inr (0, [.ref w1, .ref w2, .ref w3, .ref w4, .int (nI ln)])), (w1, .inl (cI, 600, .inl ld)), (w2, .inl (cI, 600, .inl lc)), (w3, .inl (cI, 600, .inl lm)), (w4, .inl (cI, 10, .inl kn)), (q0, .inl (cJ, 1, .inr (.inl (vp_updL ot 0 ((ld k).toInt64)))))]) (Bw D A) A) (cc := cL_line) (maxL := 5) (ret := (some .int)) (hh := [(0, 10, 13, 25), (0, 10, 17, 13)]) (by decide) rfl (Nat.le_of_ble_eq_true rfl) ?_
  intro p e s m args below meth c ls A Q H locs hx hb hr hml htb hts hown hlk hnm hc hw hl hQ
  have hl : lv_has ls 5 [(0, .ref x0), (1, .int (nI k)), (2, .int (nI 0)), (3, .ref q0)] := hl
  refine lv_aload_n hx hb dL_line_0 rfl (lv_at hl 3 rfl) ?_
  refine lv_iconst (v := nI 0) hx hb dL_line_1 (by decide) ?_
  refine lv_aload_n hx hb dL_line_2 rfl (lv_at hl 0 rfl) ?_
  refine lv_iload_n hx hb dL_line_3 rfl (lv_at hl 1 rfl) ?_
  refine lv_iload_n hx hb dL_line_4 rfl (lv_at hl 2 rfl) ?_
  refine k_i (wr := [(q0, .inl (cJ, 1, .inr (.inl ot)))]) (j_V ⟨hx, hb, hml, hown, hts⟩ (c_X9_line_0 l D cI cZ cB cJ b0 adK adV x0 z0 e0 s0 u0 t0 k0 r0 g0 w0 y0 w1 w2 w3 w4 dy ld lc lm kn ln k hln hk H.size) (cwV 2 hts gL_line_X9_line rfl rfl rfl (by decide +kernel) ⟨by decide, by decide⟩) hc hw [0, 1, 2, 3, 4, 5] rfl rfl 9 0 rfl rfl rfl rfl hl.1 rfl (Nat.le_of_ble_eq_true rfl) dL_line_5 ⟨by decide, by decide⟩) hc hw [0, 1, 2, 3, 4, 5] [6] rfl rfl (by decide) (by decide) (fun r w H locs hq hw => ?_)
  obtain ⟨rfl, rfl⟩ := hq
  have hw : Wd D A s H locs [(x0, .inr (9, [.ref z0, .ref e0, .ref s0, .ref u0, .ref t0, .ref k0, .ref r0, .ref g0, .ref w0, .ref y0, .int (nI dy)])), (w0, .inr (0, [.ref w1, .ref w2, .ref w3, .ref w4, .int (nI ln)])), (w1, .inl (cI, 600, .inl ld)), (w2, .inl (cI, 600, .inl lc)), (w3, .inl (cI, 600, .inl lm)), (w4, .inl (cI, 10, .inl kn)), (q0, .inl (cJ, 1, .inr (.inl ot)))] := hw.sub [1, 2, 3, 4, 5, 6, 0] (by decide) rfl
  refine lv_i2l (v := (ld k).toInt64) hx hb dL_line_8 rfl ?_
  refine w_last (ws1 := [(x0, .inr (9, [.ref z0, .ref e0, .ref s0, .ref u0, .ref t0, .ref k0, .ref r0, .ref g0, .ref w0, .ref y0, .int (nI dy)])), (w0, .inr (0, [.ref w1, .ref w2, .ref w3, .ref w4, .int (nI ln)])), (w1, .inl (cI, 600, .inl ld)), (w2, .inl (cI, 600, .inl lc)), (w3, .inl (cI, 600, .inl lm)), (w4, .inl (cI, 10, .inl kn)), (q0, .inl (cJ, 1, .inr (.inl (vp_updL ot 0 ((ld k).toInt64)))))]) hx hb hc hw 6 rfl rfl (i := 0) (by decide) (by decide) rfl dL_line_9 (fun H locs hw => ?_)
  refine lv_goto (tgt := 21) hx hb dL_line_10 (by decide) ?_
  refine lv_iconst (v := nI 0) hx hb dL_line_21 (by decide) ?_
  refine W.widen (k := 1) (n := 6) (by decide) (by decide) ?_
  subst hQ
  exact r_i hx hb hr rfl hlk hw ⟨rfl, rfl⟩ dL_line_22
def rm_c_L_line_1 : Room := { frames := 3, cells := 1, slots := 6, locals := 64 }
set_option maxHeartbeats 4000000 in
set_option maxRecDepth 100000 in
theorem c_L_line_1 (l : Launch) (D : va_G) (cI cZ cB cJ : ClassId) (b0 : Nat) (adK adV : Nat → Nat) (x0 z0 e0 s0 u0 t0 k0 r0 g0 w0 y0 w1 w2 w3 w4 q0 : Nat) (dy : Nat) (ld : Nat → Int32) (lc : Nat → Int32) (lm : Nat → Int32) (kn : Nat → Int32) (ln : Nat) (k : Nat) (ot : Nat → Int64) (hln : ln ≤ 600) (hk : k < ln) : Mi l yL_line wsL_line rm_c_L_line_1 D (TYs cI cZ cB cJ) b0 adK adV [.ref x0, .int (nI k), .int (nI 1), .ref q0] [(x0, .inr (9, [.ref z0, .ref e0, .ref s0, .ref u0, .ref t0, .ref k0, .ref r0, .ref g0, .ref w0, .ref y0, .int (nI dy)])), (w0, .inr (0, [.ref w1, .ref w2, .ref w3, .ref w4, .int (nI ln)])), (w1, .inl (cI, 600, .inl ld)), (w2, .inl (cI, 600, .inl lc)), (w3, .inl (cI, 600, .inl lm)), (w4, .inl (cI, 10, .inl kn)), (q0, .inl (cJ, 1, .inr (.inl ot)))] (fun (r : Int32) (w : va_W) => r = nI 0 ∧ w = [(x0, .inr (9, [.ref z0, .ref e0, .ref s0, .ref u0, .ref t0, .ref k0, .ref r0, .ref g0, .ref w0, .ref y0, .int (nI dy)])), (w0, .inr (0, [.ref w1, .ref w2, .ref w3, .ref w4, .int (nI ln)])), (w1, .inl (cI, 600, .inl ld)), (w2, .inl (cI, 600, .inl lc)), (w3, .inl (cI, 600, .inl lm)), (w4, .inl (cI, 10, .inl kn)), (q0, .inl (cJ, 1, .inr (.inl (vp_updL ot 0 ((lc k).toInt64)))))]) 1 6 := by
  refine e_W (Qf := fun A => va_Qi (fun (r : Int32) (w : va_W) => r = nI 0 ∧ w = [(x0, .inr (9, [.ref z0, .ref e0, .ref s0, .ref u0, .ref t0, .ref k0, .ref r0, .ref g0, .ref w0, .ref y0, .int (nI dy)])), (w0, .inr (0, [.ref w1, .ref w2, .ref w3, .ref w4, .int (nI ln)])), (w1, .inl (cI, 600, .inl ld)), (w2, .inl (cI, 600, .inl lc)), (w3, .inl (cI, 600, .inl lm)), (w4, .inl (cI, 10, .inl kn)), (q0, .inl (cJ, 1, .inr (.inl (vp_updL ot 0 ((lc k).toInt64)))))]) (Bw D A) A) (cc := cL_line) (maxL := 5) (ret := (some .int)) (hh := [(0, 10, 13, 25), (0, 10, 17, 13)]) (by decide) rfl (Nat.le_of_ble_eq_true rfl) ?_
  intro p e s m args below meth c ls A Q H locs hx hb hr hml htb hts hown hlk hnm hc hw hl hQ
  have hl : lv_has ls 5 [(0, .ref x0), (1, .int (nI k)), (2, .int (nI 1)), (3, .ref q0)] := hl
  refine lv_aload_n hx hb dL_line_0 rfl (lv_at hl 3 rfl) ?_
  refine lv_iconst (v := nI 0) hx hb dL_line_1 (by decide) ?_
  refine lv_aload_n hx hb dL_line_2 rfl (lv_at hl 0 rfl) ?_
  refine lv_iload_n hx hb dL_line_3 rfl (lv_at hl 1 rfl) ?_
  refine lv_iload_n hx hb dL_line_4 rfl (lv_at hl 2 rfl) ?_
  refine k_i (wr := [(q0, .inl (cJ, 1, .inr (.inl ot)))]) (j_V ⟨hx, hb, hml, hown, hts⟩ (c_X9_line_1 l D cI cZ cB cJ b0 adK adV x0 z0 e0 s0 u0 t0 k0 r0 g0 w0 y0 w1 w2 w3 w4 dy ld lc lm kn ln k hln hk H.size) (cwV 2 hts gL_line_X9_line rfl rfl rfl (by decide +kernel) ⟨by decide, by decide⟩) hc hw [0, 1, 2, 3, 4, 5] rfl rfl 9 0 rfl rfl rfl rfl hl.1 rfl (Nat.le_of_ble_eq_true rfl) dL_line_5 ⟨by decide, by decide⟩) hc hw [0, 1, 2, 3, 4, 5] [6] rfl rfl (by decide) (by decide) (fun r w H locs hq hw => ?_)
  obtain ⟨rfl, rfl⟩ := hq
  have hw : Wd D A s H locs [(x0, .inr (9, [.ref z0, .ref e0, .ref s0, .ref u0, .ref t0, .ref k0, .ref r0, .ref g0, .ref w0, .ref y0, .int (nI dy)])), (w0, .inr (0, [.ref w1, .ref w2, .ref w3, .ref w4, .int (nI ln)])), (w1, .inl (cI, 600, .inl ld)), (w2, .inl (cI, 600, .inl lc)), (w3, .inl (cI, 600, .inl lm)), (w4, .inl (cI, 10, .inl kn)), (q0, .inl (cJ, 1, .inr (.inl ot)))] := hw.sub [1, 2, 3, 4, 5, 6, 0] (by decide) rfl
  refine lv_i2l (v := (lc k).toInt64) hx hb dL_line_8 rfl ?_
  refine w_last (ws1 := [(x0, .inr (9, [.ref z0, .ref e0, .ref s0, .ref u0, .ref t0, .ref k0, .ref r0, .ref g0, .ref w0, .ref y0, .int (nI dy)])), (w0, .inr (0, [.ref w1, .ref w2, .ref w3, .ref w4, .int (nI ln)])), (w1, .inl (cI, 600, .inl ld)), (w2, .inl (cI, 600, .inl lc)), (w3, .inl (cI, 600, .inl lm)), (w4, .inl (cI, 10, .inl kn)), (q0, .inl (cJ, 1, .inr (.inl (vp_updL ot 0 ((lc k).toInt64)))))]) hx hb hc hw 6 rfl rfl (i := 0) (by decide) (by decide) rfl dL_line_9 (fun H locs hw => ?_)
  refine lv_goto (tgt := 21) hx hb dL_line_10 (by decide) ?_
  refine lv_iconst (v := nI 0) hx hb dL_line_21 (by decide) ?_
  refine W.widen (k := 1) (n := 6) (by decide) (by decide) ?_
  subst hQ
  exact r_i hx hb hr rfl hlk hw ⟨rfl, rfl⟩ dL_line_22
def rm_c_L_line_2 : Room := { frames := 3, cells := 1, slots := 6, locals := 64 }
set_option maxHeartbeats 4000000 in
set_option maxRecDepth 100000 in
theorem c_L_line_2 (l : Launch) (D : va_G) (cI cZ cB cJ : ClassId) (b0 : Nat) (adK adV : Nat → Nat) (x0 z0 e0 s0 u0 t0 k0 r0 g0 w0 y0 w1 w2 w3 w4 q0 : Nat) (dy : Nat) (ld : Nat → Int32) (lc : Nat → Int32) (lm : Nat → Int32) (kn : Nat → Int32) (ln : Nat) (k : Nat) (ot : Nat → Int64) (hln : ln ≤ 600) (hk : k < ln) : Mi l yL_line wsL_line rm_c_L_line_2 D (TYs cI cZ cB cJ) b0 adK adV [.ref x0, .int (nI k), .int (nI 2), .ref q0] [(x0, .inr (9, [.ref z0, .ref e0, .ref s0, .ref u0, .ref t0, .ref k0, .ref r0, .ref g0, .ref w0, .ref y0, .int (nI dy)])), (w0, .inr (0, [.ref w1, .ref w2, .ref w3, .ref w4, .int (nI ln)])), (w1, .inl (cI, 600, .inl ld)), (w2, .inl (cI, 600, .inl lc)), (w3, .inl (cI, 600, .inl lm)), (w4, .inl (cI, 10, .inl kn)), (q0, .inl (cJ, 1, .inr (.inl ot)))] (fun (r : Int32) (w : va_W) => r = nI 0 ∧ w = [(x0, .inr (9, [.ref z0, .ref e0, .ref s0, .ref u0, .ref t0, .ref k0, .ref r0, .ref g0, .ref w0, .ref y0, .int (nI dy)])), (w0, .inr (0, [.ref w1, .ref w2, .ref w3, .ref w4, .int (nI ln)])), (w1, .inl (cI, 600, .inl ld)), (w2, .inl (cI, 600, .inl lc)), (w3, .inl (cI, 600, .inl lm)), (w4, .inl (cI, 10, .inl kn)), (q0, .inl (cJ, 1, .inr (.inl (vp_updL ot 0 ((lm k).toInt64)))))]) 1 6 := by
  refine e_W (Qf := fun A => va_Qi (fun (r : Int32) (w : va_W) => r = nI 0 ∧ w = [(x0, .inr (9, [.ref z0, .ref e0, .ref s0, .ref u0, .ref t0, .ref k0, .ref r0, .ref g0, .ref w0, .ref y0, .int (nI dy)])), (w0, .inr (0, [.ref w1, .ref w2, .ref w3, .ref w4, .int (nI ln)])), (w1, .inl (cI, 600, .inl ld)), (w2, .inl (cI, 600, .inl lc)), (w3, .inl (cI, 600, .inl lm)), (w4, .inl (cI, 10, .inl kn)), (q0, .inl (cJ, 1, .inr (.inl (vp_updL ot 0 ((lm k).toInt64)))))]) (Bw D A) A) (cc := cL_line) (maxL := 5) (ret := (some .int)) (hh := [(0, 10, 13, 25), (0, 10, 17, 13)]) (by decide) rfl (Nat.le_of_ble_eq_true rfl) ?_
  intro p e s m args below meth c ls A Q H locs hx hb hr hml htb hts hown hlk hnm hc hw hl hQ
  have hl : lv_has ls 5 [(0, .ref x0), (1, .int (nI k)), (2, .int (nI 2)), (3, .ref q0)] := hl
  refine lv_aload_n hx hb dL_line_0 rfl (lv_at hl 3 rfl) ?_
  refine lv_iconst (v := nI 0) hx hb dL_line_1 (by decide) ?_
  refine lv_aload_n hx hb dL_line_2 rfl (lv_at hl 0 rfl) ?_
  refine lv_iload_n hx hb dL_line_3 rfl (lv_at hl 1 rfl) ?_
  refine lv_iload_n hx hb dL_line_4 rfl (lv_at hl 2 rfl) ?_
  refine k_i (wr := [(q0, .inl (cJ, 1, .inr (.inl ot)))]) (j_V ⟨hx, hb, hml, hown, hts⟩ (c_X9_line_2 l D cI cZ cB cJ b0 adK adV x0 z0 e0 s0 u0 t0 k0 r0 g0 w0 y0 w1 w2 w3 w4 dy ld lc lm kn ln k hln hk H.size) (cwV 2 hts gL_line_X9_line rfl rfl rfl (by decide +kernel) ⟨by decide, by decide⟩) hc hw [0, 1, 2, 3, 4, 5] rfl rfl 9 0 rfl rfl rfl rfl hl.1 rfl (Nat.le_of_ble_eq_true rfl) dL_line_5 ⟨by decide, by decide⟩) hc hw [0, 1, 2, 3, 4, 5] [6] rfl rfl (by decide) (by decide) (fun r w H locs hq hw => ?_)
  obtain ⟨rfl, rfl⟩ := hq
  have hw : Wd D A s H locs [(x0, .inr (9, [.ref z0, .ref e0, .ref s0, .ref u0, .ref t0, .ref k0, .ref r0, .ref g0, .ref w0, .ref y0, .int (nI dy)])), (w0, .inr (0, [.ref w1, .ref w2, .ref w3, .ref w4, .int (nI ln)])), (w1, .inl (cI, 600, .inl ld)), (w2, .inl (cI, 600, .inl lc)), (w3, .inl (cI, 600, .inl lm)), (w4, .inl (cI, 10, .inl kn)), (q0, .inl (cJ, 1, .inr (.inl ot)))] := hw.sub [1, 2, 3, 4, 5, 6, 0] (by decide) rfl
  refine lv_i2l (v := (lm k).toInt64) hx hb dL_line_8 rfl ?_
  refine w_last (ws1 := [(x0, .inr (9, [.ref z0, .ref e0, .ref s0, .ref u0, .ref t0, .ref k0, .ref r0, .ref g0, .ref w0, .ref y0, .int (nI dy)])), (w0, .inr (0, [.ref w1, .ref w2, .ref w3, .ref w4, .int (nI ln)])), (w1, .inl (cI, 600, .inl ld)), (w2, .inl (cI, 600, .inl lc)), (w3, .inl (cI, 600, .inl lm)), (w4, .inl (cI, 10, .inl kn)), (q0, .inl (cJ, 1, .inr (.inl (vp_updL ot 0 ((lm k).toInt64)))))]) hx hb hc hw 6 rfl rfl (i := 0) (by decide) (by decide) rfl dL_line_9 (fun H locs hw => ?_)
  refine lv_goto (tgt := 21) hx hb dL_line_10 (by decide) ?_
  refine lv_iconst (v := nI 0) hx hb dL_line_21 (by decide) ?_
  refine W.widen (k := 1) (n := 6) (by decide) (by decide) ?_
  subst hQ
  exact r_i hx hb hr rfl hlk hw ⟨rfl, rfl⟩ dL_line_22
def rm_c_L_line_ix : Room := { frames := 8, cells := 1, slots := 6, locals := 125 }
set_option maxHeartbeats 4000000 in
set_option maxRecDepth 100000 in
theorem c_L_line_ix (l : Launch) (D : va_G) (cI cZ cB cJ : ClassId) (b0 : Nat) (adK adV : Nat → Nat) (hls : l.stackTraces = false) (x0 z0 e0 s0 u0 t0 k0 r0 g0 w0 y0 w1 w2 w3 w4 q0 : Nat) (dy : Nat) (ld : Nat → Int32) (lc : Nat → Int32) (lm : Nat → Int32) (kn : Nat → Int32) (ln : Nat) (k : Int32) (w : Int32) (ot : Nat → Int64) (hln : ln ≤ 600) (hi : isB k (nI ln) = false) : Mi l yL_line wsL_line rm_c_L_line_ix D (TYs cI cZ cB cJ) b0 adK adV [.ref x0, .int k, .int w, .ref q0] [(x0, .inr (9, [.ref z0, .ref e0, .ref s0, .ref u0, .ref t0, .ref k0, .ref r0, .ref g0, .ref w0, .ref y0, .int (nI dy)])), (w0, .inr (0, [.ref w1, .ref w2, .ref w3, .ref w4, .int (nI ln)])), (w1, .inl (cI, 600, .inl ld)), (w2, .inl (cI, 600, .inl lc)), (w3, .inl (cI, 600, .inl lm)), (w4, .inl (cI, 10, .inl kn)), (q0, .inl (cJ, 1, .inr (.inl ot)))] (fun (r : Int32) (w : va_W) => r = nI 1 ∧ w = [(x0, .inr (9, [.ref z0, .ref e0, .ref s0, .ref u0, .ref t0, .ref k0, .ref r0, .ref g0, .ref w0, .ref y0, .int (nI dy)])), (w0, .inr (0, [.ref w1, .ref w2, .ref w3, .ref w4, .int (nI ln)])), (w1, .inl (cI, 600, .inl ld)), (w2, .inl (cI, 600, .inl lc)), (w3, .inl (cI, 600, .inl lm)), (w4, .inl (cI, 10, .inl kn)), (q0, .inl (cJ, 1, .inr (.inl ot)))]) 1 6 := by
  refine e_W (Qf := fun A => va_Qi (fun (r : Int32) (w : va_W) => r = nI 1 ∧ w = [(x0, .inr (9, [.ref z0, .ref e0, .ref s0, .ref u0, .ref t0, .ref k0, .ref r0, .ref g0, .ref w0, .ref y0, .int (nI dy)])), (w0, .inr (0, [.ref w1, .ref w2, .ref w3, .ref w4, .int (nI ln)])), (w1, .inl (cI, 600, .inl ld)), (w2, .inl (cI, 600, .inl lc)), (w3, .inl (cI, 600, .inl lm)), (w4, .inl (cI, 10, .inl kn)), (q0, .inl (cJ, 1, .inr (.inl ot)))]) (Bw D A) A) (cc := cL_line) (maxL := 5) (ret := (some .int)) (hh := [(0, 10, 13, 25), (0, 10, 17, 13)]) (by decide) rfl (Nat.le_of_ble_eq_true rfl) ?_
  intro p e s m args below meth c ls A Q H locs hx hb hr hml htb hts hown hlk hnm hc hw hl hQ
  have hl : lv_has ls 5 [(0, .ref x0), (1, .int k), (2, .int w), (3, .ref q0)] := hl
  have lk_0 := hts (.classLink RL 25 "java/lang/IndexOutOfBoundsException") (List.mem_of_getElem? (i := 1) rfl)
  refine lv_aload_n hx hb dL_line_0 rfl (lv_at hl 3 rfl) ?_
  refine lv_iconst (v := nI 0) hx hb dL_line_1 (by decide) ?_
  refine lv_aload_n hx hb dL_line_2 rfl (lv_at hl 0 rfl) ?_
  refine lv_iload_n hx hb dL_line_3 rfl (lv_at hl 1 rfl) ?_
  refine lv_iload_n hx hb dL_line_4 rfl (lv_at hl 2 rfl) ?_
  refine kx_i (wr := [(q0, .inl (cJ, 1, .inr (.inl ot)))]) (jx_V ⟨hx, hb, hml, hown, hts⟩ (c_X9_line_ix l D cI cZ cB cJ b0 adK adV hls x0 z0 e0 s0 u0 t0 k0 r0 g0 w0 y0 w1 w2 w3 w4 dy ld lc lm kn ln k w hln hi H.size) (cwV 2 hts gL_line_X9_line rfl rfl rfl (by decide +kernel) ⟨by decide, by decide⟩) hc hw [0, 1, 2, 3, 4, 5] rfl rfl 9 0 rfl rfl rfl rfl hl.1 rfl (Nat.le_of_ble_eq_true rfl) dL_line_5 ⟨by decide, by decide⟩) hc hw [0, 1, 2, 3, 4, 5] [6] rfl rfl (by decide) (by decide) (fun E ce qx w H locs hq hw hq1 hq2 hq3 => ?_) (fun r w H locs hq hw => ?_)
  · obtain ⟨hqE, rfl⟩ := hq
    have hw : Wd D A s H locs [(x0, .inr (9, [.ref z0, .ref e0, .ref s0, .ref u0, .ref t0, .ref k0, .ref r0, .ref g0, .ref w0, .ref y0, .int (nI dy)])), (w0, .inr (0, [.ref w1, .ref w2, .ref w3, .ref w4, .int (nI ln)])), (w1, .inl (cI, 600, .inl ld)), (w2, .inl (cI, 600, .inl lc)), (w3, .inl (cI, 600, .inl lm)), (w4, .inl (cI, 10, .inl kn)), (q0, .inl (cJ, 1, .inr (.inl ot)))] := hw.sub [1, 2, 3, 4, 5, 6, 0] (by decide) rfl
    subst hqE
    refine vx_catch (name := "java/lang/IndexOutOfBoundsException") hown [] ⟨0, 10, 13, 25⟩ [⟨0, 10, 17, 13⟩] (htb.trans rfl) (fun z hz => absurd hz List.not_mem_nil) (by decide) (by decide) lk_0 (va_Nw.use rfl (am_ex hc 2 rfl)) hq1 hq2 hq3 ?_
    refine W.widen (k := 1) (n := 6) (by decide) (by decide) ?_
    refine lv_astore (lv' := [(4, .ref qx), (0, .ref x0), (1, .int k), (2, .int w), (3, .ref q0)]) hx hb dL_line_13 hl (by decide) rfl (fun ls hl => ?_)
    refine lv_iconst (v := nI 1) hx hb dL_line_15 (by decide) ?_
    subst hQ
    exact r_i hx hb hr rfl hlk hw ⟨rfl, rfl⟩ dL_line_16
  · skip
    exact hq.1.elim
def rm_c_L_line_arg : Room := { frames := 7, cells := 1, slots := 6, locals := 104 }
set_option maxHeartbeats 4000000 in
set_option maxRecDepth 100000 in
theorem c_L_line_arg (l : Launch) (D : va_G) (cI cZ cB cJ : ClassId) (b0 : Nat) (adK adV : Nat → Nat) (hls : l.stackTraces = false) (x0 z0 e0 s0 u0 t0 k0 r0 g0 w0 y0 w1 w2 w3 w4 q0 : Nat) (dy : Nat) (ld : Nat → Int32) (lc : Nat → Int32) (lm : Nat → Int32) (kn : Nat → Int32) (ln : Nat) (k : Nat) (w : Int32) (ot : Nat → Int64) (hln : ln ≤ 600) (hk : k < ln) (hwh : ∀ i, i ≤ 2 → ¬ w = nI i) : Mi l yL_line wsL_line rm_c_L_line_arg D (TYs cI cZ cB cJ) b0 adK adV [.ref x0, .int (nI k), .int w, .ref q0] [(x0, .inr (9, [.ref z0, .ref e0, .ref s0, .ref u0, .ref t0, .ref k0, .ref r0, .ref g0, .ref w0, .ref y0, .int (nI dy)])), (w0, .inr (0, [.ref w1, .ref w2, .ref w3, .ref w4, .int (nI ln)])), (w1, .inl (cI, 600, .inl ld)), (w2, .inl (cI, 600, .inl lc)), (w3, .inl (cI, 600, .inl lm)), (w4, .inl (cI, 10, .inl kn)), (q0, .inl (cJ, 1, .inr (.inl ot)))] (fun (r : Int32) (w : va_W) => r = nI 2 ∧ w = [(x0, .inr (9, [.ref z0, .ref e0, .ref s0, .ref u0, .ref t0, .ref k0, .ref r0, .ref g0, .ref w0, .ref y0, .int (nI dy)])), (w0, .inr (0, [.ref w1, .ref w2, .ref w3, .ref w4, .int (nI ln)])), (w1, .inl (cI, 600, .inl ld)), (w2, .inl (cI, 600, .inl lc)), (w3, .inl (cI, 600, .inl lm)), (w4, .inl (cI, 10, .inl kn)), (q0, .inl (cJ, 1, .inr (.inl ot)))]) 1 6 := by
  refine e_W (Qf := fun A => va_Qi (fun (r : Int32) (w : va_W) => r = nI 2 ∧ w = [(x0, .inr (9, [.ref z0, .ref e0, .ref s0, .ref u0, .ref t0, .ref k0, .ref r0, .ref g0, .ref w0, .ref y0, .int (nI dy)])), (w0, .inr (0, [.ref w1, .ref w2, .ref w3, .ref w4, .int (nI ln)])), (w1, .inl (cI, 600, .inl ld)), (w2, .inl (cI, 600, .inl lc)), (w3, .inl (cI, 600, .inl lm)), (w4, .inl (cI, 10, .inl kn)), (q0, .inl (cJ, 1, .inr (.inl ot)))]) (Bw D A) A) (cc := cL_line) (maxL := 5) (ret := (some .int)) (hh := [(0, 10, 13, 25), (0, 10, 17, 13)]) (by decide) rfl (Nat.le_of_ble_eq_true rfl) ?_
  intro p e s m args below meth c ls A Q H locs hx hb hr hml htb hts hown hlk hnm hc hw hl hQ
  have hl : lv_has ls 5 [(0, .ref x0), (1, .int (nI k)), (2, .int w), (3, .ref q0)] := hl
  have lk_0 := hts (.classLink RL 25 "java/lang/IndexOutOfBoundsException") (List.mem_of_getElem? (i := 1) rfl)
  have lk_1 := hts (.classLink RL 13 "java/lang/IllegalArgumentException") (List.mem_of_getElem? (i := 2) rfl)
  refine lv_aload_n hx hb dL_line_0 rfl (lv_at hl 3 rfl) ?_
  refine lv_iconst (v := nI 0) hx hb dL_line_1 (by decide) ?_
  refine lv_aload_n hx hb dL_line_2 rfl (lv_at hl 0 rfl) ?_
  refine lv_iload_n hx hb dL_line_3 rfl (lv_at hl 1 rfl) ?_
  refine lv_iload_n hx hb dL_line_4 rfl (lv_at hl 2 rfl) ?_
  refine kx_i (wr := [(q0, .inl (cJ, 1, .inr (.inl ot)))]) (jx_V ⟨hx, hb, hml, hown, hts⟩ (c_X9_line_arg l D cI cZ cB cJ b0 adK adV hls x0 z0 e0 s0 u0 t0 k0 r0 g0 w0 y0 w1 w2 w3 w4 dy ld lc lm kn ln k w hln hk hwh H.size) (cwV 2 hts gL_line_X9_line rfl rfl rfl (by decide +kernel) ⟨by decide, by decide⟩) hc hw [0, 1, 2, 3, 4, 5] rfl rfl 9 0 rfl rfl rfl rfl hl.1 rfl (Nat.le_of_ble_eq_true rfl) dL_line_5 ⟨by decide, by decide⟩) hc hw [0, 1, 2, 3, 4, 5] [6] rfl rfl (by decide) (by decide) (fun E ce qx w H locs hq hw hq1 hq2 hq3 => ?_) (fun r w H locs hq hw => ?_)
  · obtain ⟨hqE, rfl⟩ := hq
    have hw : Wd D A s H locs [(x0, .inr (9, [.ref z0, .ref e0, .ref s0, .ref u0, .ref t0, .ref k0, .ref r0, .ref g0, .ref w0, .ref y0, .int (nI dy)])), (w0, .inr (0, [.ref w1, .ref w2, .ref w3, .ref w4, .int (nI ln)])), (w1, .inl (cI, 600, .inl ld)), (w2, .inl (cI, 600, .inl lc)), (w3, .inl (cI, 600, .inl lm)), (w4, .inl (cI, 10, .inl kn)), (q0, .inl (cJ, 1, .inr (.inl ot)))] := hw.sub [1, 2, 3, 4, 5, 6, 0] (by decide) rfl
    subst hqE
    refine vx_catch (name := "java/lang/IllegalArgumentException") hown [⟨0, 10, 13, 25⟩] ⟨0, 10, 17, 13⟩ [] (htb.trans rfl) (fun z hz => by rw [List.mem_singleton.mp hz]; exact Or.inr ⟨by decide, _, lk_0, hc.2.2.2.2.2.2.2.2.2.2.2.2.2.2.2.1⟩) (by decide) (by decide) lk_1 (va_Nw.use rfl (am_ex hc 0 rfl)) hq1 hq2 hq3 ?_
    refine W.widen (k := 1) (n := 6) (by decide) (by decide) ?_
    refine lv_astore (lv' := [(4, .ref qx), (0, .ref x0), (1, .int (nI k)), (2, .int w), (3, .ref q0)]) hx hb dL_line_17 hl (by decide) rfl (fun ls hl => ?_)
    refine lv_iconst (v := nI 2) hx hb dL_line_19 (by decide) ?_
    subst hQ
    exact r_i hx hb hr rfl hlk hw ⟨rfl, rfl⟩ dL_line_20
  · skip
    exact hq.1.elim
def rm_c_L_wait : Room := { frames := 2, cells := 1, slots := 6, locals := 41 }
set_option maxHeartbeats 4000000 in
set_option maxRecDepth 100000 in
theorem c_L_wait (l : Launch) (D : va_G) (cI cZ cB cJ : ClassId) (b0 : Nat) (adK adV : Nat → Nat) (x0 z0 e0 s0 u0 t0 k0 r0 g0 w0 y0 q0 : Nat) (dy : Nat) (k : Nat) (ot : Nat → Int64) (hk : k ≤ 1000) : Mi l yL_wait wsL_wait rm_c_L_wait D (TYs cI cZ cB cJ) b0 adK adV [.ref x0, .int (nI k), .ref q0] [(x0, .inr (9, [.ref z0, .ref e0, .ref s0, .ref u0, .ref t0, .ref k0, .ref r0, .ref g0, .ref w0, .ref y0, .int (nI dy)])), (q0, .inl (cJ, 1, .inr (.inl ot)))] (fun (r : Int32) (w : va_W) => r = nI 0 ∧ w = [(x0, .inr (9, [.ref z0, .ref e0, .ref s0, .ref u0, .ref t0, .ref k0, .ref r0, .ref g0, .ref w0, .ref y0, .int (nI (dy + k))])), (q0, .inl (cJ, 1, .inr (.inl (vp_updL ot 0 ((nI (dy + k)).toInt64)))))]) 1 6 := by
  refine e_W (Qf := fun A => va_Qi (fun (r : Int32) (w : va_W) => r = nI 0 ∧ w = [(x0, .inr (9, [.ref z0, .ref e0, .ref s0, .ref u0, .ref t0, .ref k0, .ref r0, .ref g0, .ref w0, .ref y0, .int (nI (dy + k))])), (q0, .inl (cJ, 1, .inr (.inl (vp_updL ot 0 ((nI (dy + k)).toInt64)))))]) (Bw D A) A) (cc := cL_wait) (maxL := 4) (ret := (some .int)) (hh := [(0, 9, 12, 13)]) (by decide) rfl (Nat.le_of_ble_eq_true rfl) ?_
  intro p e s m args below meth c ls A Q H locs hx hb hr hml htb hts hown hlk hnm hc hw hl hQ
  have hl : lv_has ls 4 [(0, .ref x0), (1, .int (nI k)), (2, .ref q0)] := hl
  refine lv_aload_n hx hb dL_wait_0 rfl (lv_at hl 2 rfl) ?_
  refine lv_iconst (v := nI 0) hx hb dL_wait_1 (by decide) ?_
  refine lv_aload_n hx hb dL_wait_2 rfl (lv_at hl 0 rfl) ?_
  refine lv_iload_n hx hb dL_wait_3 rfl (lv_at hl 1 rfl) ?_
  refine k_i (wr := [(q0, .inl (cJ, 1, .inr (.inl ot)))]) (j_V ⟨hx, hb, hml, hown, hts⟩ (c_X9_wait l D cI cZ cB cJ b0 adK adV x0 z0 e0 s0 u0 t0 k0 r0 g0 w0 y0 dy k hk H.size) (cwV 1 hts gL_wait_X9_wait rfl rfl rfl (by decide +kernel) ⟨by decide, by decide⟩) hc hw [0] rfl rfl 9 0 rfl rfl rfl rfl hl.1 rfl (Nat.le_of_ble_eq_true rfl) dL_wait_4 ⟨by decide, by decide⟩) hc hw [0] [1] rfl rfl (by decide) (by decide) (fun r w H locs hq hw => ?_)
  obtain ⟨rfl, rfl⟩ := hq
  have hw : Wd D A s H locs [(x0, .inr (9, [.ref z0, .ref e0, .ref s0, .ref u0, .ref t0, .ref k0, .ref r0, .ref g0, .ref w0, .ref y0, .int (nI (dy + k))])), (q0, .inl (cJ, 1, .inr (.inl ot)))] := hw.sub [1, 0] (by decide) rfl
  refine lv_i2l (v := (nI (dy + k)).toInt64) hx hb dL_wait_7 rfl ?_
  refine w_last (ws1 := [(x0, .inr (9, [.ref z0, .ref e0, .ref s0, .ref u0, .ref t0, .ref k0, .ref r0, .ref g0, .ref w0, .ref y0, .int (nI (dy + k))])), (q0, .inl (cJ, 1, .inr (.inl (vp_updL ot 0 ((nI (dy + k)).toInt64)))))]) hx hb hc hw 1 rfl rfl (i := 0) (by decide) (by decide) rfl dL_wait_8 (fun H locs hw => ?_)
  refine lv_goto (tgt := 15) hx hb dL_wait_9 (by decide) ?_
  refine lv_iconst (v := nI 0) hx hb dL_wait_15 (by decide) ?_
  refine W.widen (k := 1) (n := 6) (by decide) (by decide) ?_
  subst hQ
  exact r_i hx hb hr rfl hlk hw ⟨rfl, rfl⟩ dL_wait_16
def rm_c_L_wait_arg : Room := { frames := 8, cells := 1, slots := 6, locals := 123 }
set_option maxHeartbeats 4000000 in
set_option maxRecDepth 100000 in
theorem c_L_wait_arg (l : Launch) (D : va_G) (cI cZ cB cJ : ClassId) (b0 : Nat) (adK adV : Nat → Nat) (hls : l.stackTraces = false) (x0 z0 e0 s0 u0 t0 k0 r0 g0 w0 y0 q0 : Nat) (dy : Nat) (v : Int32) (ot : Nat → Int64) (hbad : ¬ (0 ≤ v ∧ v ≤ nI 1000)) : Mi l yL_wait wsL_wait rm_c_L_wait_arg D (TYs cI cZ cB cJ) b0 adK adV [.ref x0, .int v, .ref q0] [(x0, .inr (9, [.ref z0, .ref e0, .ref s0, .ref u0, .ref t0, .ref k0, .ref r0, .ref g0, .ref w0, .ref y0, .int (nI dy)])), (q0, .inl (cJ, 1, .inr (.inl ot)))] (fun (r : Int32) (w : va_W) => r = nI 1 ∧ w = [(x0, .inr (9, [.ref z0, .ref e0, .ref s0, .ref u0, .ref t0, .ref k0, .ref r0, .ref g0, .ref w0, .ref y0, .int (nI dy)])), (q0, .inl (cJ, 1, .inr (.inl ot)))]) 1 6 := by
  refine e_W (Qf := fun A => va_Qi (fun (r : Int32) (w : va_W) => r = nI 1 ∧ w = [(x0, .inr (9, [.ref z0, .ref e0, .ref s0, .ref u0, .ref t0, .ref k0, .ref r0, .ref g0, .ref w0, .ref y0, .int (nI dy)])), (q0, .inl (cJ, 1, .inr (.inl ot)))]) (Bw D A) A) (cc := cL_wait) (maxL := 4) (ret := (some .int)) (hh := [(0, 9, 12, 13)]) (by decide) rfl (Nat.le_of_ble_eq_true rfl) ?_
  intro p e s m args below meth c ls A Q H locs hx hb hr hml htb hts hown hlk hnm hc hw hl hQ
  have hl : lv_has ls 4 [(0, .ref x0), (1, .int v), (2, .ref q0)] := hl
  have lk_0 := hts (.classLink RL 13 "java/lang/IllegalArgumentException") (List.mem_of_getElem? (i := 1) rfl)
  refine lv_aload_n hx hb dL_wait_0 rfl (lv_at hl 2 rfl) ?_
  refine lv_iconst (v := nI 0) hx hb dL_wait_1 (by decide) ?_
  refine lv_aload_n hx hb dL_wait_2 rfl (lv_at hl 0 rfl) ?_
  refine lv_iload_n hx hb dL_wait_3 rfl (lv_at hl 1 rfl) ?_
  refine kx_i (wr := [(q0, .inl (cJ, 1, .inr (.inl ot)))]) (jx_V ⟨hx, hb, hml, hown, hts⟩ (c_X9_wait_arg l D cI cZ cB cJ b0 adK adV hls x0 z0 e0 s0 u0 t0 k0 r0 g0 w0 y0 dy v hbad H.size) (cwV 1 hts gL_wait_X9_wait rfl rfl rfl (by decide +kernel) ⟨by decide, by decide⟩) hc hw [0] rfl rfl 9 0 rfl rfl rfl rfl hl.1 rfl (Nat.le_of_ble_eq_true rfl) dL_wait_4 ⟨by decide, by decide⟩) hc hw [0] [1] rfl rfl (by decide) (by decide) (fun E ce qx w H locs hq hw hq1 hq2 hq3 => ?_) (fun r w H locs hq hw => ?_)
  · obtain ⟨hqE, rfl⟩ := hq
    have hw : Wd D A s H locs [(x0, .inr (9, [.ref z0, .ref e0, .ref s0, .ref u0, .ref t0, .ref k0, .ref r0, .ref g0, .ref w0, .ref y0, .int (nI dy)])), (q0, .inl (cJ, 1, .inr (.inl ot)))] := hw.sub [1, 0] (by decide) rfl
    subst hqE
    refine vx_catch (name := "java/lang/IllegalArgumentException") hown [] ⟨0, 9, 12, 13⟩ [] (htb.trans rfl) (fun z hz => absurd hz List.not_mem_nil) (by decide) (by decide) lk_0 (va_Nw.use rfl (am_ex hc 0 rfl)) hq1 hq2 hq3 ?_
    refine W.widen (k := 1) (n := 6) (by decide) (by decide) ?_
    refine lv_astore_n (lv' := [(3, .ref qx), (0, .ref x0), (1, .int v), (2, .ref q0)]) hx hb dL_wait_12 rfl hl (by decide) rfl (fun ls hl => ?_)
    refine lv_iconst (v := nI 1) hx hb dL_wait_13 (by decide) ?_
    subst hQ
    exact r_i hx hb hr rfl hlk hw ⟨rfl, rfl⟩ dL_wait_14
  · skip
    exact hq.1.elim
