def rm_c_X6_readKey : Room := { frames := 6, cells := 0, slots := 0, locals := 127 }
set_option maxHeartbeats 4000000 in
set_option maxRecDepth 100000 in
theorem c_X6_readKey (l : Launch) (D : va_G) (cI cZ cB cJ : ClassId) (b0 : Nat) (adK adV : Nat → Nat) (r0 t0 d0 t1 d1 d2 : Nat) (b : Nat → Nat) (L : Nat) (ap : Nat) (wp : Nat) (ms : Nat → Nat) (up : Nat → Bool) (n : Nat) (mz : Nat) (u : Bool) (a1 : Nat) (hL : L ≤ 100) (ha : ap ≤ L) (hB : ∀ k, b k < 256) (hn : n < 6) (hk : prK b L ap = some ((mz, u), a1)) : Mi l yX6_readKey wsX6_readKey rm_c_X6_readKey D (TYs cI cZ cB cJ) b0 adK adV [.ref r0] [(r0, .inr (6, [.ref t0, .ref d0, .int (nI L), .int (nI ap), .int (nI wp)])), (t0, .inr (8, [.ref t1, .int (nI L)])), (t1, .inl (cI, 100, .inl (nF b))), (d0, .inr (2, [.ref d1, .ref d2, .int (nI n)])), (d1, .inl (cI, 6, .inl (nF ms))), (d2, .inl (cZ, 6, .inl (zF up)))] (fun (r : Int32) (w : va_W) => ∃ (w1 : Nat), r = zI true ∧ w = [(r0, .inr (6, [.ref t0, .ref d0, .int (nI L), .int (nI a1), .int (nI w1)])), (t0, .inr (8, [.ref t1, .int (nI L)])), (t1, .inl (cI, 100, .inl (nF b))), (d0, .inr (2, [.ref d1, .ref d2, .int (nI (n + 1))])), (d1, .inl (cI, 6, .inl (nF (va_up ms n mz)))), (d2, .inl (cZ, 6, .inl (zF (va_up up n u))))]) 0 0 := by
  refine e_M (Qf := fun A => va_Qi (fun (r : Int32) (w : va_W) => ∃ (w1 : Nat), r = zI true ∧ w = [(r0, .inr (6, [.ref t0, .ref d0, .int (nI L), .int (nI a1), .int (nI w1)])), (t0, .inr (8, [.ref t1, .int (nI L)])), (t1, .inl (cI, 100, .inl (nF b))), (d0, .inr (2, [.ref d1, .ref d2, .int (nI (n + 1))])), (d1, .inl (cI, 6, .inl (nF (va_up ms n mz)))), (d2, .inl (cZ, 6, .inl (zF (va_up up n u))))]) (Bw D A) A) (cc := cX6_readKey) (maxL := 3) (ret := (some .boolean)) (by decide) rfl (Nat.le_of_ble_eq_true rfl) ?_
  intro p e s m args below meth c ls A Q H locs hx hb hr hml hts hown hlk hnm hc hw hl hQ
  have hl : lv_has ls 3 [(0, .ref r0)] := hl
  have in_6 : ∀ w ∈ u_ws RX6 TX6 5, w ∈ wsX6_readKey := fun _ h => List.mem_cons_of_mem _ (List.mem_append_left _ (List.mem_append_left _ (List.mem_append_right _ h)))
  have lk_0 := hts (.fieldLink RX6 12 "PloughingMatch$RuleReader" "draft" "LPloughingMatch$Keys;") (List.mem_of_getElem? (i := 3) rfl)
  obtain ⟨a2, hrm, he, hu⟩ := prK_inv hk
  have ha2 : a2 ≤ L := (rm_le ha hrm).2.1
  have hm8 : mz ≤ 8 := (rm_le ha hrm).2.2
  have hu5 : u = isW b (skB b L a2) (wdE b L (skB b L a2)) 5 := (by rcases hu with ⟨h1, h2⟩ | ⟨h1, -, h2⟩ <;> exact h2.trans h1.symm)
  refine lv_aload_n hx hb dX6_readKey_0 rfl (lv_at hl 0 rfl) ?_
  refine k_i (wr := [(d0, .inr (2, [.ref d1, .ref d2, .int (nI n)])), (d1, .inl (cI, 6, .inl (nF ms))), (d2, .inl (cZ, 6, .inl (zF up)))]) (j_V ⟨hx, hb, hml, hown, hts⟩ (c_X6_readMeasure l D cI cZ cB cJ b0 adK adV r0 t0 d0 t1 b L ap wp mz a2 (by omega) (by omega) hB hrm H.size) (cwV 0 hts gX6_readKey_X6_readMeasure rfl rfl rfl (by decide +kernel) ⟨by decide, by decide⟩) hc hw [0, 1, 2] rfl rfl 6 0 rfl rfl rfl rfl hl.1 rfl (Nat.le_of_ble_eq_true rfl) dX6_readKey_1 ⟨by decide, by decide⟩) hc hw [0, 1, 2] [3, 4, 5] rfl rfl (by decide) (by decide) (fun r w H locs hq hw => ?_)
  obtain ⟨rfl, rfl⟩ := hq
  have hw : Wd D A s H locs [(r0, .inr (6, [.ref t0, .ref d0, .int (nI L), .int (nI a2), .int (nI (skB b L ap))])), (t0, .inr (8, [.ref t1, .int (nI L)])), (t1, .inl (cI, 100, .inl (nF b))), (d0, .inr (2, [.ref d1, .ref d2, .int (nI n)])), (d1, .inl (cI, 6, .inl (nF ms))), (d2, .inl (cZ, 6, .inl (zF up)))] := hw.sub [3, 4, 5, 0, 1, 2] (by decide) rfl
  refine lv_istore_n (lv' := [(1, .int (nI mz)), (0, .ref r0)]) hx hb dX6_readKey_4 rfl hl (by decide) rfl (fun ls hl => ?_)
  refine lv_iload_n hx hb dX6_readKey_5 rfl (lv_at hl 0 rfl) ?_
  refine lv_iconst (v := (-1)) hx hb dX6_readKey_6 (by decide) ?_
  refine lv_icmp_ne (tgt := 12) hx hb dX6_readKey_7 (by decide) (fun c_1 => ?_) (fun c_1 => ?_)
  · skip
    refine lv_aload_n hx hb dX6_readKey_12 rfl (lv_at hl 1 rfl) ?_
    refine k_v (wr := [(d0, .inr (2, [.ref d1, .ref d2, .int (nI n)])), (d1, .inl (cI, 6, .inl (nF ms))), (d2, .inl (cZ, 6, .inl (zF up)))]) (j_V ⟨hx, hb, hml, hown, hts⟩ (c_X6_readWord l D cI cZ cB cJ b0 adK adV r0 t0 d0 t1 b L a2 (skB b L ap) (by omega) ha2 hB H.size) (cwV 0 hts gX6_readKey_X6_readWord rfl rfl rfl (by decide +kernel) ⟨by decide, by decide⟩) hc hw [0, 1, 2] rfl rfl 6 0 rfl rfl rfl rfl hl.1 rfl (Nat.le_of_ble_eq_true rfl) dX6_readKey_13 ⟨by decide, by decide⟩) hc hw [0, 1, 2] [3, 4, 5] rfl rfl (by decide) (by decide) (fun  w H locs hq hw => ?_)
    subst hq
    have hw : Wd D A s H locs [(r0, .inr (6, [.ref t0, .ref d0, .int (nI L), .int (nI (wdE b L (skB b L a2))), .int (nI (skB b L a2))])), (t0, .inr (8, [.ref t1, .int (nI L)])), (t1, .inl (cI, 100, .inl (nF b))), (d0, .inr (2, [.ref d1, .ref d2, .int (nI n)])), (d1, .inl (cI, 6, .inl (nF ms))), (d2, .inl (cZ, 6, .inl (zF up)))] := hw.sub [3, 4, 5, 0, 1, 2] (by decide) rfl
    refine lv_aload_n hx hb dX6_readKey_16 rfl (lv_at hl 1 rfl) ?_
    refine va_ldcS hx hb hown (hc.2.2.2.2.2.2.1 _ (List.mem_of_getElem? (i := 5) rfl)) dX6_readKey_17 ?_
    refine k_i (wr := [(d0, .inr (2, [.ref d1, .ref d2, .int (nI n)])), (d1, .inl (cI, 6, .inl (nF ms))), (d2, .inl (cZ, 6, .inl (zF up)))]) (j_V ⟨hx, hb, hml, hown, hts⟩ (c_X6_isWord l D cI cZ cB cJ b0 adK adV r0 t0 d0 t1 b L (wdE b L (skB b L a2)) (skB b L a2) 5 (by omega) (wdE_le b (skB_le b ha2)) (wdE_ge b L _) (by decide) hB H.size) (cwV 1 hts gX6_readKey_X6_isWord rfl rfl rfl (by decide +kernel) ⟨by decide, by decide⟩) hc hw [0, 1, 2] rfl rfl 6 0 rfl rfl rfl rfl hl.1 rfl (Nat.le_of_ble_eq_true rfl) dX6_readKey_19 ⟨by decide, by decide⟩) hc hw [0, 1, 2] [3, 4, 5] rfl rfl (by decide) (by decide) (fun r w H locs hq hw => ?_)
    obtain ⟨rfl, rfl⟩ := hq
    have hw : Wd D A s H locs [(r0, .inr (6, [.ref t0, .ref d0, .int (nI L), .int (nI ((wdE b L (skB b L a2)))), .int (nI ((skB b L a2)))])), (t0, .inr (8, [.ref t1, .int (nI L)])), (t1, .inl (cI, 100, .inl (nF b))), (d0, .inr (2, [.ref d1, .ref d2, .int (nI n)])), (d1, .inl (cI, 6, .inl (nF ms))), (d2, .inl (cZ, 6, .inl (zF up)))] := hw.sub [3, 4, 5, 0, 1, 2] (by decide) rfl
    refine lv_istore_n (lv' := [(2, .int (zI (isW b (skB b L a2) (wdE b L (skB b L a2)) 5))), (1, .int (nI mz)), (0, .ref r0)]) hx hb dX6_readKey_22 rfl hl (by decide) rfl (fun ls hl => ?_)
    refine lv_iload_n hx hb dX6_readKey_23 rfl (lv_at hl 0 rfl) ?_
    refine wz_if_ne (tgt := 46) hx hb dX6_readKey_24 (by decide) (fun c_2 => ?_) (fun c_2 => ?_)
    · skip
      refine lv_aload_n hx hb dX6_readKey_46 rfl (lv_at hl 2 rfl) ?_
      refine w_get (C := RX6) (T := TX6) (N := 5) (ci := 6) hx hb hts in_6 hown hc hw 0 1 rfl rfl (by decide) lk_0 rfl dX6_readKey_47 ?_
      refine lv_iload_n hx hb dX6_readKey_50 rfl (lv_at hl 1 rfl) ?_
      refine lv_iload_n hx hb dX6_readKey_51 rfl (lv_at hl 0 rfl) ?_
      refine k_v (wr := [(r0, .inr (6, [.ref t0, .ref d0, .int (nI L), .int (nI ((wdE b L (skB b L a2)))), .int (nI ((skB b L a2)))])), (t0, .inr (8, [.ref t1, .int (nI L)])), (t1, .inl (cI, 100, .inl (nF b)))]) (j_V ⟨hx, hb, hml, hown, hts⟩ (c_X2_append l D cI cZ cB cJ b0 adK adV d0 d1 d2 ms up n mz (isW b (skB b L a2) (wdE b L (skB b L a2)) 5) (by omega) H.size) (cwV 2 hts gX6_readKey_X2_append rfl rfl rfl (by decide +kernel) ⟨by decide, by decide⟩) hc hw [3, 4, 5] rfl rfl 2 3 rfl rfl rfl rfl hl.1 rfl (Nat.le_of_ble_eq_true rfl) dX6_readKey_52 ⟨by decide, by decide⟩) hc hw [3, 4, 5] [0, 1, 2] rfl rfl (by decide) (by decide) (fun  w H locs hq hw => ?_)
      subst hq
      have hw : Wd D A s H locs [(r0, .inr (6, [.ref t0, .ref d0, .int (nI L), .int (nI ((wdE b L (skB b L a2)))), .int (nI ((skB b L a2)))])), (t0, .inr (8, [.ref t1, .int (nI L)])), (t1, .inl (cI, 100, .inl (nF b))), (d0, .inr (2, [.ref d1, .ref d2, .int (nI (n + 1))])), (d1, .inl (cI, 6, .inl (nF (va_up ms n mz)))), (d2, .inl (cZ, 6, .inl (zF (va_up up n (isW b (skB b L a2) (wdE b L (skB b L a2)) 5)))))] := hw
      refine lv_iconst (v := nI 1) hx hb dX6_readKey_55 (by decide) ?_
      subst hQ
      exact r_i hx hb hr rfl hlk hw ⟨(skB b L a2), rfl, (by rw [he, hu5])⟩ dX6_readKey_56
    · skip
      refine lv_aload_n hx hb dX6_readKey_27 rfl (lv_at hl 2 rfl) ?_
      refine va_ldcS hx hb hown (hc.2.2.2.2.2.2.1 _ (List.mem_of_getElem? (i := 6) rfl)) dX6_readKey_28 ?_
      refine k_i (wr := [(d0, .inr (2, [.ref d1, .ref d2, .int (nI n)])), (d1, .inl (cI, 6, .inl (nF ms))), (d2, .inl (cZ, 6, .inl (zF up)))]) (j_V ⟨hx, hb, hml, hown, hts⟩ (c_X6_isWord l D cI cZ cB cJ b0 adK adV r0 t0 d0 t1 b L (wdE b L (skB b L a2)) (skB b L a2) 6 (by omega) (wdE_le b (skB_le b ha2)) (wdE_ge b L _) (by decide) hB H.size) (cwV 1 hts gX6_readKey_X6_isWord rfl rfl rfl (by decide +kernel) ⟨by decide, by decide⟩) hc hw [0, 1, 2] rfl rfl 6 0 rfl rfl rfl rfl hl.1 rfl (Nat.le_of_ble_eq_true rfl) dX6_readKey_30 ⟨by decide, by decide⟩) hc hw [0, 1, 2] [3, 4, 5] rfl rfl (by decide) (by decide) (fun r w H locs hq hw => ?_)
      obtain ⟨rfl, rfl⟩ := hq
      have hw : Wd D A s H locs [(r0, .inr (6, [.ref t0, .ref d0, .int (nI L), .int (nI ((wdE b L (skB b L a2)))), .int (nI ((skB b L a2)))])), (t0, .inr (8, [.ref t1, .int (nI L)])), (t1, .inl (cI, 100, .inl (nF b))), (d0, .inr (2, [.ref d1, .ref d2, .int (nI n)])), (d1, .inl (cI, 6, .inl (nF ms))), (d2, .inl (cZ, 6, .inl (zF up)))] := hw.sub [3, 4, 5, 0, 1, 2] (by decide) rfl
      refine wz_if_ne (tgt := 46) hx hb dX6_readKey_33 (by decide) (fun c_3 => ?_) (fun c_3 => ?_)
      · skip
        refine lv_aload_n hx hb dX6_readKey_46 rfl (lv_at hl 2 rfl) ?_
        refine w_get (C := RX6) (T := TX6) (N := 5) (ci := 6) hx hb hts in_6 hown hc hw 0 1 rfl rfl (by decide) lk_0 rfl dX6_readKey_47 ?_
        refine lv_iload_n hx hb dX6_readKey_50 rfl (lv_at hl 1 rfl) ?_
        refine lv_iload_n hx hb dX6_readKey_51 rfl (lv_at hl 0 rfl) ?_
        refine k_v (wr := [(r0, .inr (6, [.ref t0, .ref d0, .int (nI L), .int (nI ((wdE b L (skB b L a2)))), .int (nI ((skB b L a2)))])), (t0, .inr (8, [.ref t1, .int (nI L)])), (t1, .inl (cI, 100, .inl (nF b)))]) (j_V ⟨hx, hb, hml, hown, hts⟩ (c_X2_append l D cI cZ cB cJ b0 adK adV d0 d1 d2 ms up n mz (isW b (skB b L a2) (wdE b L (skB b L a2)) 5) (by omega) H.size) (cwV 2 hts gX6_readKey_X2_append rfl rfl rfl (by decide +kernel) ⟨by decide, by decide⟩) hc hw [3, 4, 5] rfl rfl 2 3 rfl rfl rfl rfl hl.1 rfl (Nat.le_of_ble_eq_true rfl) dX6_readKey_52 ⟨by decide, by decide⟩) hc hw [3, 4, 5] [0, 1, 2] rfl rfl (by decide) (by decide) (fun  w H locs hq hw => ?_)
        subst hq
        have hw : Wd D A s H locs [(r0, .inr (6, [.ref t0, .ref d0, .int (nI L), .int (nI ((wdE b L (skB b L a2)))), .int (nI ((skB b L a2)))])), (t0, .inr (8, [.ref t1, .int (nI L)])), (t1, .inl (cI, 100, .inl (nF b))), (d0, .inr (2, [.ref d1, .ref d2, .int (nI (n + 1))])), (d1, .inl (cI, 6, .inl (nF (va_up ms n mz)))), (d2, .inl (cZ, 6, .inl (zF (va_up up n (isW b (skB b L a2) (wdE b L (skB b L a2)) 5)))))] := hw
        refine lv_iconst (v := nI 1) hx hb dX6_readKey_55 (by decide) ?_
        subst hQ
        exact r_i hx hb hr rfl hlk hw ⟨(skB b L a2), rfl, (by rw [he, hu5])⟩ dX6_readKey_56
      · exact (by rcases hu with ⟨h1, -⟩ | ⟨-, h1, -⟩; exact absurd (h1.symm.trans c_2) (by decide); exact absurd (h1.symm.trans c_3) (by decide))
  · exact (by exact absurd c_1 (nI_neg1 (by omega)))
def rm_c_X6_readKey_no : Room := { frames := 6, cells := 0, slots := 0, locals := 127 }
set_option maxHeartbeats 4000000 in
set_option maxRecDepth 100000 in
theorem c_X6_readKey_no (l : Launch) (D : va_G) (cI cZ cB cJ : ClassId) (b0 : Nat) (adK adV : Nat → Nat) (r0 t0 d0 t1 d1 d2 : Nat) (b : Nat → Nat) (L : Nat) (ap : Nat) (wp : Nat) (ms : Nat → Nat) (up : Nat → Bool) (n : Nat) (hL : L ≤ 100) (ha : ap ≤ L) (hB : ∀ k, b k < 256) (hn : n < 6) (hk : prK b L ap = none) : Mi l yX6_readKey wsX6_readKey rm_c_X6_readKey_no D (TYs cI cZ cB cJ) b0 adK adV [.ref r0] [(r0, .inr (6, [.ref t0, .ref d0, .int (nI L), .int (nI ap), .int (nI wp)])), (t0, .inr (8, [.ref t1, .int (nI L)])), (t1, .inl (cI, 100, .inl (nF b))), (d0, .inr (2, [.ref d1, .ref d2, .int (nI n)])), (d1, .inl (cI, 6, .inl (nF ms))), (d2, .inl (cZ, 6, .inl (zF up)))] (fun (r : Int32) (w : va_W) => ∃ (w1 : Nat), r = zI false ∧ w = [(r0, .inr (6, [.ref t0, .ref d0, .int (nI L), .int (nI (prF b L ap)), .int (nI w1)])), (t0, .inr (8, [.ref t1, .int (nI L)])), (t1, .inl (cI, 100, .inl (nF b))), (d0, .inr (2, [.ref d1, .ref d2, .int (nI n)])), (d1, .inl (cI, 6, .inl (nF ms))), (d2, .inl (cZ, 6, .inl (zF up)))]) 0 0 := by
  refine e_M (Qf := fun A => va_Qi (fun (r : Int32) (w : va_W) => ∃ (w1 : Nat), r = zI false ∧ w = [(r0, .inr (6, [.ref t0, .ref d0, .int (nI L), .int (nI (prF b L ap)), .int (nI w1)])), (t0, .inr (8, [.ref t1, .int (nI L)])), (t1, .inl (cI, 100, .inl (nF b))), (d0, .inr (2, [.ref d1, .ref d2, .int (nI n)])), (d1, .inl (cI, 6, .inl (nF ms))), (d2, .inl (cZ, 6, .inl (zF up)))]) (Bw D A) A) (cc := cX6_readKey) (maxL := 3) (ret := (some .boolean)) (by decide) rfl (Nat.le_of_ble_eq_true rfl) ?_
  intro p e s m args below meth c ls A Q H locs hx hb hr hml hts hown hlk hnm hc hw hl hQ
  have hl : lv_has ls 3 [(0, .ref r0)] := hl
  have in_6 : ∀ w ∈ u_ws RX6 TX6 5, w ∈ wsX6_readKey := fun _ h => List.mem_cons_of_mem _ (List.mem_append_left _ (List.mem_append_left _ (List.mem_append_right _ h)))
  have lk_0 := hts (.fieldLink RX6 25 "PloughingMatch$RuleReader" "wordStart" "I") (List.mem_of_getElem? (i := 1) rfl)
  have lk_1 := hts (.fieldLink RX6 22 "PloughingMatch$RuleReader" "at" "I") (List.mem_of_getElem? (i := 2) rfl)
  refine lv_aload_n hx hb dX6_readKey_0 rfl (lv_at hl 0 rfl) ?_
  by_cases hrm : rm b L ap = none
  · skip
    refine k_i (wr := [(d0, .inr (2, [.ref d1, .ref d2, .int (nI n)])), (d1, .inl (cI, 6, .inl (nF ms))), (d2, .inl (cZ, 6, .inl (zF up)))]) (j_V ⟨hx, hb, hml, hown, hts⟩ (c_X6_readMeasure_no l D cI cZ cB cJ b0 adK adV r0 t0 d0 t1 b L ap wp (by omega) (by omega) hB hrm H.size) (cwV 0 hts gX6_readKey_X6_readMeasure rfl rfl rfl (by decide +kernel) ⟨by decide, by decide⟩) hc hw [0, 1, 2] rfl rfl 6 0 rfl rfl rfl rfl hl.1 rfl (Nat.le_of_ble_eq_true rfl) dX6_readKey_1 ⟨by decide, by decide⟩) hc hw [0, 1, 2] [3, 4, 5] rfl rfl (by decide) (by decide) (fun r w H locs hq hw => ?_)
    obtain ⟨rfl, rfl⟩ := hq
    have hw : Wd D A s H locs [(r0, .inr (6, [.ref t0, .ref d0, .int (nI L), .int (nI (rmF b L ap)), .int (nI (skB b L ap))])), (t0, .inr (8, [.ref t1, .int (nI L)])), (t1, .inl (cI, 100, .inl (nF b))), (d0, .inr (2, [.ref d1, .ref d2, .int (nI n)])), (d1, .inl (cI, 6, .inl (nF ms))), (d2, .inl (cZ, 6, .inl (zF up)))] := hw.sub [3, 4, 5, 0, 1, 2] (by decide) rfl
    refine lv_istore_n (lv' := [(1, .int (-1)), (0, .ref r0)]) hx hb dX6_readKey_4 rfl hl (by decide) rfl (fun ls hl => ?_)
    refine lv_iload_n hx hb dX6_readKey_5 rfl (lv_at hl 0 rfl) ?_
    refine lv_iconst (v := (-1)) hx hb dX6_readKey_6 (by decide) ?_
    refine lv_icmp_ne (tgt := 12) hx hb dX6_readKey_7 (by decide) (fun c_1 => ?_) (fun c_1 => ?_)
    · exact (by simp at c_1)
    · skip
      refine lv_iconst (v := nI 0) hx hb dX6_readKey_10 (by decide) ?_
      subst hQ
      exact r_i hx hb hr rfl hlk hw ⟨(skB b L ap), rfl, (by rw [show prF b L ap = rmF b L ap by simp only [prF, hrm]])⟩ dX6_readKey_11
  · skip
    obtain ⟨⟨m2, a2⟩, hrm⟩ := Option.ne_none_iff_exists'.mp hrm
    have ha2 : a2 ≤ L := (rm_le ha hrm).2.1
    have hm8 : m2 ≤ 8 := (rm_le ha hrm).2.2
    refine k_i (wr := [(d0, .inr (2, [.ref d1, .ref d2, .int (nI n)])), (d1, .inl (cI, 6, .inl (nF ms))), (d2, .inl (cZ, 6, .inl (zF up)))]) (j_V ⟨hx, hb, hml, hown, hts⟩ (c_X6_readMeasure l D cI cZ cB cJ b0 adK adV r0 t0 d0 t1 b L ap wp m2 a2 (by omega) (by omega) hB hrm H.size) (cwV 0 hts gX6_readKey_X6_readMeasure rfl rfl rfl (by decide +kernel) ⟨by decide, by decide⟩) hc hw [0, 1, 2] rfl rfl 6 0 rfl rfl rfl rfl hl.1 rfl (Nat.le_of_ble_eq_true rfl) dX6_readKey_1 ⟨by decide, by decide⟩) hc hw [0, 1, 2] [3, 4, 5] rfl rfl (by decide) (by decide) (fun r w H locs hq hw => ?_)
    obtain ⟨rfl, rfl⟩ := hq
    have hw : Wd D A s H locs [(r0, .inr (6, [.ref t0, .ref d0, .int (nI L), .int (nI a2), .int (nI (skB b L ap))])), (t0, .inr (8, [.ref t1, .int (nI L)])), (t1, .inl (cI, 100, .inl (nF b))), (d0, .inr (2, [.ref d1, .ref d2, .int (nI n)])), (d1, .inl (cI, 6, .inl (nF ms))), (d2, .inl (cZ, 6, .inl (zF up)))] := hw.sub [3, 4, 5, 0, 1, 2] (by decide) rfl
    refine lv_istore_n (lv' := [(1, .int (nI m2)), (0, .ref r0)]) hx hb dX6_readKey_4 rfl hl (by decide) rfl (fun ls hl => ?_)
    refine lv_iload_n hx hb dX6_readKey_5 rfl (lv_at hl 0 rfl) ?_
    refine lv_iconst (v := (-1)) hx hb dX6_readKey_6 (by decide) ?_
    refine lv_icmp_ne (tgt := 12) hx hb dX6_readKey_7 (by decide) (fun c_2 => ?_) (fun c_2 => ?_)
    · skip
      refine lv_aload_n hx hb dX6_readKey_12 rfl (lv_at hl 1 rfl) ?_
      refine k_v (wr := [(d0, .inr (2, [.ref d1, .ref d2, .int (nI n)])), (d1, .inl (cI, 6, .inl (nF ms))), (d2, .inl (cZ, 6, .inl (zF up)))]) (j_V ⟨hx, hb, hml, hown, hts⟩ (c_X6_readWord l D cI cZ cB cJ b0 adK adV r0 t0 d0 t1 b L a2 (skB b L ap) (by omega) ha2 hB H.size) (cwV 0 hts gX6_readKey_X6_readWord rfl rfl rfl (by decide +kernel) ⟨by decide, by decide⟩) hc hw [0, 1, 2] rfl rfl 6 0 rfl rfl rfl rfl hl.1 rfl (Nat.le_of_ble_eq_true rfl) dX6_readKey_13 ⟨by decide, by decide⟩) hc hw [0, 1, 2] [3, 4, 5] rfl rfl (by decide) (by decide) (fun  w H locs hq hw => ?_)
      subst hq
      have hw : Wd D A s H locs [(r0, .inr (6, [.ref t0, .ref d0, .int (nI L), .int (nI (wdE b L (skB b L a2))), .int (nI (skB b L a2))])), (t0, .inr (8, [.ref t1, .int (nI L)])), (t1, .inl (cI, 100, .inl (nF b))), (d0, .inr (2, [.ref d1, .ref d2, .int (nI n)])), (d1, .inl (cI, 6, .inl (nF ms))), (d2, .inl (cZ, 6, .inl (zF up)))] := hw.sub [3, 4, 5, 0, 1, 2] (by decide) rfl
      refine lv_aload_n hx hb dX6_readKey_16 rfl (lv_at hl 1 rfl) ?_
      refine va_ldcS hx hb hown (hc.2.2.2.2.2.2.1 _ (List.mem_of_getElem? (i := 5) rfl)) dX6_readKey_17 ?_
      refine k_i (wr := [(d0, .inr (2, [.ref d1, .ref d2, .int (nI n)])), (d1, .inl (cI, 6, .inl (nF ms))), (d2, .inl (cZ, 6, .inl (zF up)))]) (j_V ⟨hx, hb, hml, hown, hts⟩ (c_X6_isWord l D cI cZ cB cJ b0 adK adV r0 t0 d0 t1 b L (wdE b L (skB b L a2)) (skB b L a2) 5 (by omega) (wdE_le b (skB_le b ha2)) (wdE_ge b L _) (by decide) hB H.size) (cwV 1 hts gX6_readKey_X6_isWord rfl rfl rfl (by decide +kernel) ⟨by decide, by decide⟩) hc hw [0, 1, 2] rfl rfl 6 0 rfl rfl rfl rfl hl.1 rfl (Nat.le_of_ble_eq_true rfl) dX6_readKey_19 ⟨by decide, by decide⟩) hc hw [0, 1, 2] [3, 4, 5] rfl rfl (by decide) (by decide) (fun r w H locs hq hw => ?_)
      obtain ⟨rfl, rfl⟩ := hq
      have hw : Wd D A s H locs [(r0, .inr (6, [.ref t0, .ref d0, .int (nI L), .int (nI ((wdE b L (skB b L a2)))), .int (nI ((skB b L a2)))])), (t0, .inr (8, [.ref t1, .int (nI L)])), (t1, .inl (cI, 100, .inl (nF b))), (d0, .inr (2, [.ref d1, .ref d2, .int (nI n)])), (d1, .inl (cI, 6, .inl (nF ms))), (d2, .inl (cZ, 6, .inl (zF up)))] := hw.sub [3, 4, 5, 0, 1, 2] (by decide) rfl
      refine lv_istore_n (lv' := [(2, .int (zI (isW b (skB b L a2) (wdE b L (skB b L a2)) 5))), (1, .int (nI m2)), (0, .ref r0)]) hx hb dX6_readKey_22 rfl hl (by decide) rfl (fun ls hl => ?_)
      refine lv_iload_n hx hb dX6_readKey_23 rfl (lv_at hl 0 rfl) ?_
      refine wz_if_ne (tgt := 46) hx hb dX6_readKey_24 (by decide) (fun c_3 => ?_) (fun c_3 => ?_)
      · exact (by exact absurd hk (by simp [prK, hrm, c_3]))
      · skip
        refine lv_aload_n hx hb dX6_readKey_27 rfl (lv_at hl 2 rfl) ?_
        refine va_ldcS hx hb hown (hc.2.2.2.2.2.2.1 _ (List.mem_of_getElem? (i := 6) rfl)) dX6_readKey_28 ?_
        refine k_i (wr := [(d0, .inr (2, [.ref d1, .ref d2, .int (nI n)])), (d1, .inl (cI, 6, .inl (nF ms))), (d2, .inl (cZ, 6, .inl (zF up)))]) (j_V ⟨hx, hb, hml, hown, hts⟩ (c_X6_isWord l D cI cZ cB cJ b0 adK adV r0 t0 d0 t1 b L (wdE b L (skB b L a2)) (skB b L a2) 6 (by omega) (wdE_le b (skB_le b ha2)) (wdE_ge b L _) (by decide) hB H.size) (cwV 1 hts gX6_readKey_X6_isWord rfl rfl rfl (by decide +kernel) ⟨by decide, by decide⟩) hc hw [0, 1, 2] rfl rfl 6 0 rfl rfl rfl rfl hl.1 rfl (Nat.le_of_ble_eq_true rfl) dX6_readKey_30 ⟨by decide, by decide⟩) hc hw [0, 1, 2] [3, 4, 5] rfl rfl (by decide) (by decide) (fun r w H locs hq hw => ?_)
        obtain ⟨rfl, rfl⟩ := hq
        have hw : Wd D A s H locs [(r0, .inr (6, [.ref t0, .ref d0, .int (nI L), .int (nI ((wdE b L (skB b L a2)))), .int (nI ((skB b L a2)))])), (t0, .inr (8, [.ref t1, .int (nI L)])), (t1, .inl (cI, 100, .inl (nF b))), (d0, .inr (2, [.ref d1, .ref d2, .int (nI n)])), (d1, .inl (cI, 6, .inl (nF ms))), (d2, .inl (cZ, 6, .inl (zF up)))] := hw.sub [3, 4, 5, 0, 1, 2] (by decide) rfl
        refine wz_if_ne (tgt := 46) hx hb dX6_readKey_33 (by decide) (fun c_4 => ?_) (fun c_4 => ?_)
        · exact (by exact absurd hk (by simp [prK, hrm, c_3, c_4]))
        · skip
          refine lv_aload_n hx hb dX6_readKey_36 rfl (lv_at hl 2 rfl) ?_
          refine lv_aload_n hx hb dX6_readKey_37 rfl (lv_at hl 2 rfl) ?_
          refine w_get (C := RX6) (T := TX6) (N := 5) (ci := 6) hx hb hts in_6 hown hc hw 0 4 rfl rfl (by decide) lk_0 rfl dX6_readKey_38 ?_
          refine w_put (C := RX6) (T := TX6) (N := 5) (ci := 6) (v := .int (nI ((skB b L a2)))) (ws1 := [(r0, .inr (6, [.ref t0, .ref d0, .int (nI L), .int (nI ((skB b L a2))), .int (nI ((skB b L a2)))])), (t0, .inr (8, [.ref t1, .int (nI L)])), (t1, .inl (cI, 100, .inl (nF b))), (d0, .inr (2, [.ref d1, .ref d2, .int (nI n)])), (d1, .inl (cI, 6, .inl (nF ms))), (d2, .inl (cZ, 6, .inl (zF up)))]) hx hb hts in_6 tyX6 tyX6_ok nmX6 hown hc hw 0 3 rfl rfl (by decide) lk_1 rfl rfl rfl (Nat.le_of_ble_eq_true rfl) rfl dX6_readKey_41 (fun H locs hw => ?_)
          refine lv_iconst (v := nI 0) hx hb dX6_readKey_44 (by decide) ?_
          subst hQ
          exact r_i hx hb hr rfl hlk hw ⟨(skB b L a2), rfl, (by rw [show prF b L ap = skB b L a2 by simp only [prF, hrm]])⟩ dX6_readKey_45
    · exact (by exact absurd c_2 (nI_neg1 (by omega)))
