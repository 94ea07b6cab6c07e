theorem lp_in {L i : Nat} (hL : L ≤ 3072) (hi : i ≤ 3072) (h : ¬ nI L - nI 6 < nI i) : i + 6 ≤ L := by
  rw [Int32.lt_iff_toInt_lt, fb_subI (by rw [nI_toInt (by omega), nI_toInt (by omega)]; omega) (by rw [nI_toInt (by omega), nI_toInt (by omega)]; omega), nI_toInt (by omega), nI_toInt (by omega), nI_toInt (by omega)] at h
  omega
set_option maxHeartbeats 4000000 in
set_option maxRecDepth 100000 in
theorem law_loop (l : Launch) (D : va_G) (cI cZ cB cJ : ClassId) (b0 : Nat) (adK adV : Nat → Nat) (hls : l.stackTraces = false) (p : Program) (e : Env) (s : State) (m : MethodId) (args : Array Value) (below : List Frame) (meth : Method) (c : Code) (Q : State → Prop) (A : Nat → Prop) (b L : Nat) (xs : Nat → Int32) (hx : p.tables.exec = Jvm.exec) (hb : c.code = cL_law) (hml : c.maxLocals = 7) (hts : ∀ w ∈ wsL_law, w.before args s = true) (hown : s.vm.findClass RL = some m.cls) (hc : Cx D (TYs cI cZ cB cJ) b0 adK adV A s) (hX : va_X b L xs s s.heap) (hbl : b < s.heap.size) (hbA : ¬ A b) (hL : L ≤ 3072) (x0 z0 e0 s0 u0 t0 k0 r0 g0 w0 y0 z1 e1 e2 e3 e4 e5 s1 s2 s3 s4 s5 u1 u2 t1 k1 k2 d0 d1 d2 g1 w1 w2 w3 w4 m0 m1 m2 m3 m4 m5 m6 m7 m8 m9 m10 m11 m12 m13 m14 m15 m16 m17 m18 m19 m20 m21 q0 : Nat) (kend : ∀ (H : Heap) (locs : List Loc) (ls : Array Slot) (j : Nat), j ≤ 512 → Wd D A s H locs [] → W p l e room_1 s m args below meth c H locs (58 + j) (5820 + 6 * j) Q (F0 m 1258 ls [])) :
    ∀ (fuel j : Nat), 513 - j < fuel → 6 * j ≤ L → ∀ (H : Heap) (locs : List Loc) (ls : Array Slot), LI D cI cZ cB cJ A s H locs j x0 z0 e0 s0 u0 t0 k0 r0 g0 w0 y0 z1 e1 e2 e3 e4 e5 s1 s2 s3 s4 s5 u1 u2 t1 k1 k2 d0 d1 d2 g1 w1 w2 w3 w4 m0 m1 m2 m3 m4 m5 m6 m7 m8 m9 m10 m11 m12 m13 m14 m15 m16 m17 m18 m19 m20 m21 q0 → lv_has ls 7 [(0, .ref b), (1, .ref x0), (2, .ref m0), (3, .ref q0), (4, .int (nI (6 * j)))] → W p l e room_1 s m args below meth c H locs (58 + j) (5820 + 6 * j) Q (F0 m 23 ls []) := by
  intro fuel
  induction fuel with
  | zero => intro j hfu; exact absurd hfu (Nat.not_lt_zero _)
  | succ fuel ih =>
    intro j hfu hjL H locs ls hLI hl
    have hj5 : j ≤ 512 := (by omega)
    have hLI0 := hLI
    obtain ⟨dy, nz, nn, kd, ag, cb, pb, pp, n, dr, mk, hd, td, su, gr, P, sz, mi, of_, al, bt, tn, ms, up, nk, rl, ra, rw_, dm, du, dn, o, no, ld, lc, lm, kn, ln, pts, th, sb, zs, hp, iw, mh, mt, mu, msm, dnm, ns_, nd_, vls, mp, ot, hI, hw⟩ := hLI0
    refine lv_iload hx hb dL_law_23 (lv_at hl 4 rfl) ?_
    refine lv_aload_n hx hb dL_law_25 rfl (lv_at hl 0 rfl) ?_
    refine va_slen hx hb hX hbl hbA hw.2.2 dL_law_26 ?_
    refine wn_top (y := nI L) rfl ?_
    refine lv_bipush (v := nI 6) hx hb dL_law_27 (by decide) ?_
    refine lv_isub hx hb dL_law_29 ?_
    refine lv_icmp_gt (tgt := 1258) hx hb dL_law_30 (by decide) (fun c9 => ?_) (fun c9 => ?_)
    · exact kend H locs ls j hj5 ⟨fun k q h => by simp at h, ⟨fun i j p q h => by simp at h, fun k q h => by simp at h⟩, hw.2.2⟩
    have hi : 6 * j + 6 ≤ L := (lp_in hL (by omega) c9)
    have hj : j < 512 := (by omega)
    have kk : ∀ (H : Heap) (locs : List Loc) (ls : Array Slot), LI D cI cZ cB cJ A s H locs (j + 1) x0 z0 e0 s0 u0 t0 k0 r0 g0 w0 y0 z1 e1 e2 e3 e4 e5 s1 s2 s3 s4 s5 u1 u2 t1 k1 k2 d0 d1 d2 g1 w1 w2 w3 w4 m0 m1 m2 m3 m4 m5 m6 m7 m8 m9 m10 m11 m12 m13 m14 m15 m16 m17 m18 m19 m20 m21 q0 → lv_has ls 7 [(0, .ref b), (1, .ref x0), (2, .ref m0), (3, .ref q0), (4, .int (nI (6 * j)))] → W p l e room_1 s m args below meth c H locs (58 + j + 1) (5820 + 6 * j + 6) Q (F0 m 1252 ls []) := by
      intro H locs ls hLI hl
      refine wn_iinc (a := 6 * j) (d := 6) (lv' := [(4, .int (nI (6 * j + 6))), (0, .ref b), (1, .ref x0), (2, .ref m0), (3, .ref q0)]) hx hb dL_law_1252 hl (k := 4) rfl (by decide) rfl (fun ls hl => ?_)
      refine lv_goto (tgt := 23) hx hb dL_law_1255 (by decide) ?_
      refine W.widen (k := 58 + (j + 1)) (n := 5820 + 6 * (j + 1)) (by omega) (by omega) ?_
      exact ih (j + 1) (by omega) (by omega) H locs ls hLI (by rw [show 6 * (j + 1) = 6 * j + 6 by omega]; exact lv_sub hl [1, 2, 3, 4, 0] rfl)
    refine lv_aload_n hx hb dL_law_33 rfl (lv_at hl 0 rfl) ?_
    refine lv_iload hx hb dL_law_34 (lv_at hl 4 rfl) ?_
    refine w_sld hx hb hX hbl hbA hw (i := 6 * j) (by omega) (by omega) rfl dL_law_36 ?_
    refine lv_bipush (v := nI 31) hx hb dL_law_37 (by decide) ?_
    refine lv_iand hx hb dL_law_39 ?_
    generalize xs (6 * j) &&& nI 31 = v9
    by_cases hs_0 : v9 = nI 0
    · refine lv_tableIn (off := 92) (tgt := 132) hx hb dL_law_40 (by rw [hs_0]; decide) (by rw [hs_0]; decide) (by rw [hs_0]; rfl) (by decide) ?_
      exact op_ploughman l D cI cZ cB cJ b0 adK adV hls p e s m args below meth c Q A b L xs hx hb hml hts hown hc hX hbl hbA (6 * j) j (58 + j) (5820 + 6 * j) hi hL hj (by omega) x0 z0 e0 s0 u0 t0 k0 r0 g0 w0 y0 z1 e1 e2 e3 e4 e5 s1 s2 s3 s4 s5 u1 u2 t1 k1 k2 d0 d1 d2 g1 w1 w2 w3 w4 m0 m1 m2 m3 m4 m5 m6 m7 m8 m9 m10 m11 m12 m13 m14 m15 m16 m17 m18 m19 m20 m21 q0 dy nz nn kd ag cb pb pp n dr mk hd td su gr P sz mi of_ al bt tn ms up nk rl ra rw_ dm du dn o no ld lc lm kn ln pts th sb zs hp iw mh mt mu msm dnm ns_ nd_ vls mp ot hI kk H locs ls hw hl
    by_cases hs_1 : v9 = nI 1
    · refine lv_tableIn (off := 172) (tgt := 212) hx hb dL_law_40 (by rw [hs_1]; decide) (by rw [hs_1]; decide) (by rw [hs_1]; rfl) (by decide) ?_
      exact op_noise l D cI cZ cB cJ b0 adK adV hls p e s m args below meth c Q A b L xs hx hb hml hts hown hc hX hbl hbA (6 * j) j (58 + j) (5820 + 6 * j) hi hL hj (by omega) x0 z0 e0 s0 u0 t0 k0 r0 g0 w0 y0 z1 e1 e2 e3 e4 e5 s1 s2 s3 s4 s5 u1 u2 t1 k1 k2 d0 d1 d2 g1 w1 w2 w3 w4 m0 m1 m2 m3 m4 m5 m6 m7 m8 m9 m10 m11 m12 m13 m14 m15 m16 m17 m18 m19 m20 m21 q0 dy nz nn kd ag cb pb pp n dr mk hd td su gr P sz mi of_ al bt tn ms up nk rl ra rw_ dm du dn o no ld lc lm kn ln pts th sb zs hp iw mh mt mu msm dnm ns_ nd_ vls mp ot hI kk H locs ls hw hl
    by_cases hs_2 : v9 = nI 2
    · refine lv_tableIn (off := 197) (tgt := 237) hx hb dL_law_40 (by rw [hs_2]; decide) (by rw [hs_2]; decide) (by rw [hs_2]; rfl) (by decide) ?_
      exact op_draw l D cI cZ cB cJ b0 adK adV hls p e s m args below meth c Q A b L xs hx hb hml hts hown hc hX hbl hbA (6 * j) j (58 + j) (5820 + 6 * j) hi hL hj (by omega) x0 z0 e0 s0 u0 t0 k0 r0 g0 w0 y0 z1 e1 e2 e3 e4 e5 s1 s2 s3 s4 s5 u1 u2 t1 k1 k2 d0 d1 d2 g1 w1 w2 w3 w4 m0 m1 m2 m3 m4 m5 m6 m7 m8 m9 m10 m11 m12 m13 m14 m15 m16 m17 m18 m19 m20 m21 q0 dy nz nn kd ag cb pb pp n dr mk hd td su gr P sz mi of_ al bt tn ms up nk rl ra rw_ dm du dn o no ld lc lm kn ln pts th sb zs hp iw mh mt mu msm dnm ns_ nd_ vls mp ot hI kk H locs ls hw hl
    by_cases hs_3 : v9 = nI 3
    · refine lv_tableIn (off := 241) (tgt := 281) hx hb dL_law_40 (by rw [hs_3]; decide) (by rw [hs_3]; decide) (by rw [hs_3]; rfl) (by decide) ?_
      exact op_plot l D cI cZ cB cJ b0 adK adV hls p e s m args below meth c Q A b L xs hx hb hml hts hown hc hX hbl hbA (6 * j) j (58 + j) (5820 + 6 * j) hi hL hj (by omega) x0 z0 e0 s0 u0 t0 k0 r0 g0 w0 y0 z1 e1 e2 e3 e4 e5 s1 s2 s3 s4 s5 u1 u2 t1 k1 k2 d0 d1 d2 g1 w1 w2 w3 w4 m0 m1 m2 m3 m4 m5 m6 m7 m8 m9 m10 m11 m12 m13 m14 m15 m16 m17 m18 m19 m20 m21 q0 dy nz nn kd ag cb pb pp n dr mk hd td su gr P sz mi of_ al bt tn ms up nk rl ra rw_ dm du dn o no ld lc lm kn ln pts th sb zs hp iw mh mt mu msm dnm ns_ nd_ vls mp ot hI kk H locs ls hw hl
    by_cases hs_4 : v9 = nI 4
    · refine lv_tableIn (off := 297) (tgt := 337) hx hb dL_law_40 (by rw [hs_4]; decide) (by rw [hs_4]; decide) (by rw [hs_4]; rfl) (by decide) ?_
      exact op_mark l D cI cZ cB cJ b0 adK adV hls p e s m args below meth c Q A b L xs hx hb hml hts hown hc hX hbl hbA (6 * j) j (58 + j) (5820 + 6 * j) hi hL hj (by omega) x0 z0 e0 s0 u0 t0 k0 r0 g0 w0 y0 z1 e1 e2 e3 e4 e5 s1 s2 s3 s4 s5 u1 u2 t1 k1 k2 d0 d1 d2 g1 w1 w2 w3 w4 m0 m1 m2 m3 m4 m5 m6 m7 m8 m9 m10 m11 m12 m13 m14 m15 m16 m17 m18 m19 m20 m21 q0 dy nz nn kd ag cb pb pp n dr mk hd td su gr P sz mi of_ al bt tn ms up nk rl ra rw_ dm du dn o no ld lc lm kn ln pts th sb zs hp iw mh mt mu msm dnm ns_ nd_ vls mp ot hI kk H locs ls hw hl
    by_cases hs_5 : v9 = nI 5
    · refine lv_tableIn (off := 389) (tgt := 429) hx hb dL_law_40 (by rw [hs_5]; decide) (by rw [hs_5]; decide) (by rw [hs_5]; rfl) (by decide) ?_
      exact op_hard l D cI cZ cB cJ b0 adK adV hls p e s m args below meth c Q A b L xs hx hb hml hts hown hc hX hbl hbA (6 * j) j (58 + j) (5820 + 6 * j) hi hL hj (by omega) x0 z0 e0 s0 u0 t0 k0 r0 g0 w0 y0 z1 e1 e2 e3 e4 e5 s1 s2 s3 s4 s5 u1 u2 t1 k1 k2 d0 d1 d2 g1 w1 w2 w3 w4 m0 m1 m2 m3 m4 m5 m6 m7 m8 m9 m10 m11 m12 m13 m14 m15 m16 m17 m18 m19 m20 m21 q0 dy nz nn kd ag cb pb pp n dr mk hd td su gr P sz mi of_ al bt tn ms up nk rl ra rw_ dm du dn o no ld lc lm kn ln pts th sb zs hp iw mh mt mu msm dnm ns_ nd_ vls mp ot hI kk H locs ls hw hl
    by_cases hs_6 : v9 = nI 6
    · refine lv_tableIn (off := 457) (tgt := 497) hx hb dL_law_40 (by rw [hs_6]; decide) (by rw [hs_6]; decide) (by rw [hs_6]; rfl) (by decide) ?_
      exact op_told l D cI cZ cB cJ b0 adK adV hls p e s m args below meth c Q A b L xs hx hb hml hts hown hc hX hbl hbA (6 * j) j (58 + j) (5820 + 6 * j) hi hL hj (by omega) x0 z0 e0 s0 u0 t0 k0 r0 g0 w0 y0 z1 e1 e2 e3 e4 e5 s1 s2 s3 s4 s5 u1 u2 t1 k1 k2 d0 d1 d2 g1 w1 w2 w3 w4 m0 m1 m2 m3 m4 m5 m6 m7 m8 m9 m10 m11 m12 m13 m14 m15 m16 m17 m18 m19 m20 m21 q0 dy nz nn kd ag cb pb pp n dr mk hd td su gr P sz mi of_ al bt tn ms up nk rl ra rw_ dm du dn o no ld lc lm kn ln pts th sb zs hp iw mh mt mu msm dnm ns_ nd_ vls mp ot hI kk H locs ls hw hl
    by_cases hs_7 : v9 = nI 7
    · refine lv_tableIn (off := 525) (tgt := 565) hx hb dL_law_40 (by rw [hs_7]; decide) (by rw [hs_7]; decide) (by rw [hs_7]; rfl) (by decide) ?_
      exact op_about l D cI cZ cB cJ b0 adK adV hls p e s m args below meth c Q A b L xs hx hb hml hts hown hc hX hbl hbA (6 * j) j (58 + j) (5820 + 6 * j) hi hL hj (by omega) x0 z0 e0 s0 u0 t0 k0 r0 g0 w0 y0 z1 e1 e2 e3 e4 e5 s1 s2 s3 s4 s5 u1 u2 t1 k1 k2 d0 d1 d2 g1 w1 w2 w3 w4 m0 m1 m2 m3 m4 m5 m6 m7 m8 m9 m10 m11 m12 m13 m14 m15 m16 m17 m18 m19 m20 m21 q0 dy nz nn kd ag cb pb pp n dr mk hd td su gr P sz mi of_ al bt tn ms up nk rl ra rw_ dm du dn o no ld lc lm kn ln pts th sb zs hp iw mh mt mu msm dnm ns_ nd_ vls mp ot hI kk H locs ls hw hl
    by_cases hs_8 : v9 = nI 8
    · refine lv_tableIn (off := 593) (tgt := 633) hx hb dL_law_40 (by rw [hs_8]; decide) (by rw [hs_8]; decide) (by rw [hs_8]; rfl) (by decide) ?_
      exact op_minutes l D cI cZ cB cJ b0 adK adV hls p e s m args below meth c Q A b L xs hx hb hml hts hown hc hX hbl hbA (6 * j) j (58 + j) (5820 + 6 * j) hi hL hj (by omega) x0 z0 e0 s0 u0 t0 k0 r0 g0 w0 y0 z1 e1 e2 e3 e4 e5 s1 s2 s3 s4 s5 u1 u2 t1 k1 k2 d0 d1 d2 g1 w1 w2 w3 w4 m0 m1 m2 m3 m4 m5 m6 m7 m8 m9 m10 m11 m12 m13 m14 m15 m16 m17 m18 m19 m20 m21 q0 dy nz nn kd ag cb pb pp n dr mk hd td su gr P sz mi of_ al bt tn ms up nk rl ra rw_ dm du dn o no ld lc lm kn ln pts th sb zs hp iw mh mt mu msm dnm ns_ nd_ vls mp ot hI kk H locs ls hw hl
    by_cases hs_9 : v9 = nI 9
    · refine lv_tableIn (off := 661) (tgt := 701) hx hb dL_law_40 (by rw [hs_9]; decide) (by rw [hs_9]; decide) (by rw [hs_9]; rfl) (by decide) ?_
      exact op_limit l D cI cZ cB cJ b0 adK adV hls p e s m args below meth c Q A b L xs hx hb hml hts hown hc hX hbl hbA (6 * j) j (58 + j) (5820 + 6 * j) hi hL hj (by omega) x0 z0 e0 s0 u0 t0 k0 r0 g0 w0 y0 z1 e1 e2 e3 e4 e5 s1 s2 s3 s4 s5 u1 u2 t1 k1 k2 d0 d1 d2 g1 w1 w2 w3 w4 m0 m1 m2 m3 m4 m5 m6 m7 m8 m9 m10 m11 m12 m13 m14 m15 m16 m17 m18 m19 m20 m21 q0 dy nz nn kd ag cb pb pp n dr mk hd td su gr P sz mi of_ al bt tn ms up nk rl ra rw_ dm du dn o no ld lc lm kn ln pts th sb zs hp iw mh mt mu msm dnm ns_ nd_ vls mp ot hI kk H locs ls hw hl
    by_cases hs_10 : v9 = nI 10
    · refine lv_tableIn (off := 717) (tgt := 757) hx hb dL_law_40 (by rw [hs_10]; decide) (by rw [hs_10]; decide) (by rw [hs_10]; rfl) (by decide) ?_
      exact op_feed l D cI cZ cB cJ b0 adK adV hls p e s m args below meth c Q A b L xs hx hb hml hts hown hc hX hbl hbA (6 * j) j (58 + j) (5820 + 6 * j) hi hL hj (by omega) x0 z0 e0 s0 u0 t0 k0 r0 g0 w0 y0 z1 e1 e2 e3 e4 e5 s1 s2 s3 s4 s5 u1 u2 t1 k1 k2 d0 d1 d2 g1 w1 w2 w3 w4 m0 m1 m2 m3 m4 m5 m6 m7 m8 m9 m10 m11 m12 m13 m14 m15 m16 m17 m18 m19 m20 m21 q0 dy nz nn kd ag cb pb pp n dr mk hd td su gr P sz mi of_ al bt tn ms up nk rl ra rw_ dm du dn o no ld lc lm kn ln pts th sb zs hp iw mh mt mu msm dnm ns_ nd_ vls mp ot hI kk H locs ls hw hl
    by_cases hs_11 : v9 = nI 11
    · refine lv_tableIn (off := 790) (tgt := 830) hx hb dL_law_40 (by rw [hs_11]; decide) (by rw [hs_11]; decide) (by rw [hs_11]; rfl) (by decide) ?_
      exact op_rule l D cI cZ cB cJ b0 adK adV hls p e s m args below meth c Q A b L xs hx hb hml hts hown hc hX hbl hbA (6 * j) j (58 + j) (5820 + 6 * j) hi hL hj (by omega) x0 z0 e0 s0 u0 t0 k0 r0 g0 w0 y0 z1 e1 e2 e3 e4 e5 s1 s2 s3 s4 s5 u1 u2 t1 k1 k2 d0 d1 d2 g1 w1 w2 w3 w4 m0 m1 m2 m3 m4 m5 m6 m7 m8 m9 m10 m11 m12 m13 m14 m15 m16 m17 m18 m19 m20 m21 q0 dy nz nn kd ag cb pb pp n dr mk hd td su gr P sz mi of_ al bt tn ms up nk rl ra rw_ dm du dn o no ld lc lm kn ln pts th sb zs hp iw mh mt mu msm dnm ns_ nd_ vls mp ot hI kk H locs ls hw hl
    by_cases hs_12 : v9 = nI 12
    · refine lv_tableIn (off := 846) (tgt := 886) hx hb dL_law_40 (by rw [hs_12]; decide) (by rw [hs_12]; decide) (by rw [hs_12]; rfl) (by decide) ?_
      exact op_rank l D cI cZ cB cJ b0 adK adV hls p e s m args below meth c Q A b L xs hx hb hml hts hown hc hX hbl hbA (6 * j) j (58 + j) (5820 + 6 * j) hi hL hj (by omega) x0 z0 e0 s0 u0 t0 k0 r0 g0 w0 y0 z1 e1 e2 e3 e4 e5 s1 s2 s3 s4 s5 u1 u2 t1 k1 k2 d0 d1 d2 g1 w1 w2 w3 w4 m0 m1 m2 m3 m4 m5 m6 m7 m8 m9 m10 m11 m12 m13 m14 m15 m16 m17 m18 m19 m20 m21 q0 dy nz nn kd ag cb pb pp n dr mk hd td su gr P sz mi of_ al bt tn ms up nk rl ra rw_ dm du dn o no ld lc lm kn ln pts th sb zs hp iw mh mt mu msm dnm ns_ nd_ vls mp ot hI kk H locs ls hw hl
    by_cases hs_13 : v9 = nI 13
    · refine lv_tableIn (off := 914) (tgt := 954) hx hb dL_law_40 (by rw [hs_13]; decide) (by rw [hs_13]; decide) (by rw [hs_13]; rfl) (by decide) ?_
      exact op_protest l D cI cZ cB cJ b0 adK adV hls p e s m args below meth c Q A b L xs hx hb hml hts hown hc hX hbl hbA (6 * j) j (58 + j) (5820 + 6 * j) hi hL hj (by omega) x0 z0 e0 s0 u0 t0 k0 r0 g0 w0 y0 z1 e1 e2 e3 e4 e5 s1 s2 s3 s4 s5 u1 u2 t1 k1 k2 d0 d1 d2 g1 w1 w2 w3 w4 m0 m1 m2 m3 m4 m5 m6 m7 m8 m9 m10 m11 m12 m13 m14 m15 m16 m17 m18 m19 m20 m21 q0 dy nz nn kd ag cb pb pp n dr mk hd td su gr P sz mi of_ al bt tn ms up nk rl ra rw_ dm du dn o no ld lc lm kn ln pts th sb zs hp iw mh mt mu msm dnm ns_ nd_ vls mp ot hI kk H locs ls hw hl
    by_cases hs_14 : v9 = nI 14
    · refine lv_tableIn (off := 982) (tgt := 1022) hx hb dL_law_40 (by rw [hs_14]; decide) (by rw [hs_14]; decide) (by rw [hs_14]; rfl) (by decide) ?_
      exact op_publish l D cI cZ cB cJ b0 adK adV hls p e s m args below meth c Q A b L xs hx hb hml hts hown hc hX hbl hbA (6 * j) j (58 + j) (5820 + 6 * j) hi hL hj (by omega) x0 z0 e0 s0 u0 t0 k0 r0 g0 w0 y0 z1 e1 e2 e3 e4 e5 s1 s2 s3 s4 s5 u1 u2 t1 k1 k2 d0 d1 d2 g1 w1 w2 w3 w4 m0 m1 m2 m3 m4 m5 m6 m7 m8 m9 m10 m11 m12 m13 m14 m15 m16 m17 m18 m19 m20 m21 q0 dy nz nn kd ag cb pb pp n dr mk hd td su gr P sz mi of_ al bt tn ms up nk rl ra rw_ dm du dn o no ld lc lm kn ln pts th sb zs hp iw mh mt mu msm dnm ns_ nd_ vls mp ot hI kk H locs ls hw hl
    by_cases hs_15 : v9 = nI 15
    · refine lv_tableIn (off := 995) (tgt := 1035) hx hb dL_law_40 (by rw [hs_15]; decide) (by rw [hs_15]; decide) (by rw [hs_15]; rfl) (by decide) ?_
      exact op_points l D cI cZ cB cJ b0 adK adV hls p e s m args below meth c Q A b L xs hx hb hml hts hown hc hX hbl hbA (6 * j) j (58 + j) (5820 + 6 * j) hi hL hj (by omega) x0 z0 e0 s0 u0 t0 k0 r0 g0 w0 y0 z1 e1 e2 e3 e4 e5 s1 s2 s3 s4 s5 u1 u2 t1 k1 k2 d0 d1 d2 g1 w1 w2 w3 w4 m0 m1 m2 m3 m4 m5 m6 m7 m8 m9 m10 m11 m12 m13 m14 m15 m16 m17 m18 m19 m20 m21 q0 dy nz nn kd ag cb pb pp n dr mk hd td su gr P sz mi of_ al bt tn ms up nk rl ra rw_ dm du dn o no ld lc lm kn ln pts th sb zs hp iw mh mt mu msm dnm ns_ nd_ vls mp ot hI kk H locs ls hw hl
    by_cases hs_16 : v9 = nI 16
    · refine lv_tableIn (off := 1063) (tgt := 1103) hx hb dL_law_40 (by rw [hs_16]; decide) (by rw [hs_16]; decide) (by rw [hs_16]; rfl) (by decide) ?_
      exact op_line l D cI cZ cB cJ b0 adK adV hls p e s m args below meth c Q A b L xs hx hb hml hts hown hc hX hbl hbA (6 * j) j (58 + j) (5820 + 6 * j) hi hL hj (by omega) x0 z0 e0 s0 u0 t0 k0 r0 g0 w0 y0 z1 e1 e2 e3 e4 e5 s1 s2 s3 s4 s5 u1 u2 t1 k1 k2 d0 d1 d2 g1 w1 w2 w3 w4 m0 m1 m2 m3 m4 m5 m6 m7 m8 m9 m10 m11 m12 m13 m14 m15 m16 m17 m18 m19 m20 m21 q0 dy nz nn kd ag cb pb pp n dr mk hd td su gr P sz mi of_ al bt tn ms up nk rl ra rw_ dm du dn o no ld lc lm kn ln pts th sb zs hp iw mh mt mu msm dnm ns_ nd_ vls mp ot hI kk H locs ls hw hl
    by_cases hs_17 : v9 = nI 17
    · refine lv_tableIn (off := 1131) (tgt := 1171) hx hb dL_law_40 (by rw [hs_17]; decide) (by rw [hs_17]; decide) (by rw [hs_17]; rfl) (by decide) ?_
      exact op_wait l D cI cZ cB cJ b0 adK adV hls p e s m args below meth c Q A b L xs hx hb hml hts hown hc hX hbl hbA (6 * j) j (58 + j) (5820 + 6 * j) hi hL hj (by omega) x0 z0 e0 s0 u0 t0 k0 r0 g0 w0 y0 z1 e1 e2 e3 e4 e5 s1 s2 s3 s4 s5 u1 u2 t1 k1 k2 d0 d1 d2 g1 w1 w2 w3 w4 m0 m1 m2 m3 m4 m5 m6 m7 m8 m9 m10 m11 m12 m13 m14 m15 m16 m17 m18 m19 m20 m21 q0 dy nz nn kd ag cb pb pp n dr mk hd td su gr P sz mi of_ al bt tn ms up nk rl ra rw_ dm du dn o no ld lc lm kn ln pts th sb zs hp iw mh mt mu msm dnm ns_ nd_ vls mp ot hI kk H locs ls hw hl
    by_cases hs_18 : v9 = nI 18
    · refine lv_tableIn (off := 1187) (tgt := 1227) hx hb dL_law_40 (by rw [hs_18]; decide) (by rw [hs_18]; decide) (by rw [hs_18]; rfl) (by decide) ?_
      exact op_count l D cI cZ cB cJ b0 adK adV hls p e s m args below meth c Q A b L xs hx hb hml hts hown hc hX hbl hbA (6 * j) j (58 + j) (5820 + 6 * j) hi hL hj (by omega) x0 z0 e0 s0 u0 t0 k0 r0 g0 w0 y0 z1 e1 e2 e3 e4 e5 s1 s2 s3 s4 s5 u1 u2 t1 k1 k2 d0 d1 d2 g1 w1 w2 w3 w4 m0 m1 m2 m3 m4 m5 m6 m7 m8 m9 m10 m11 m12 m13 m14 m15 m16 m17 m18 m19 m20 m21 q0 dy nz nn kd ag cb pb pp n dr mk hd td su gr P sz mi of_ al bt tn ms up nk rl ra rw_ dm du dn o no ld lc lm kn ln pts th sb zs hp iw mh mt mu msm dnm ns_ nd_ vls mp ot hI kk H locs ls hw hl
    have hs : ∀ i, i ≤ 18 → ¬ v9 = nI i := (fun i hi9 => by rcases (show i = 0 ∨ i = 1 ∨ i = 2 ∨ i = 3 ∨ i = 4 ∨ i = 5 ∨ i = 6 ∨ i = 7 ∨ i = 8 ∨ i = 9 ∨ i = 10 ∨ i = 11 ∨ i = 12 ∨ i = 13 ∨ i = 14 ∨ i = 15 ∨ i = 16 ∨ i = 17 ∨ i = 18 by omega) with rfl | rfl | rfl | rfl | rfl | rfl | rfl | rfl | rfl | rfl | rfl | rfl | rfl | rfl | rfl | rfl | rfl | rfl | rfl <;> assumption)
    refine lv_tableOut (tgt := 1252) hx hb dL_law_40 (sw_out hs) (by decide) ?_
    refine W.widen (k := 58 + j + 1) (n := 5820 + 6 * j + 6) (by omega) (by omega) ?_
    obtain ⟨i1, i2, i3, i4, i5, i6, i7, i8, i9, i10, i11, i12, i13, i14, i15, i16, i17, i18, i19⟩ := hI
    exact kk H locs ls ⟨dy, nz, nn, kd, ag, cb, pb, pp, n, dr, mk, hd, td, su, gr, P, sz, mi, of_, al, bt, tn, ms, up, nk, rl, ra, rw_, dm, du, dn, o, no, ld, lc, lm, kn, ln, pts, th, sb, zs, hp, iw, mh, mt, mu, msm, dnm, ns_, nd_, vls, mp, ot, ⟨by omega, i2, i3, i4, i5, i6, i7, i8, i9, i10, i11, i12, i13, i14, i15, i16, i17, i18, i19⟩, hw⟩ hl
