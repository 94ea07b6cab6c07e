def rm_c_X6_readPart : Room := { frames := 2, cells := 0, slots := 0, locals := 41 }
set_option maxHeartbeats 4000000 in
set_option maxRecDepth 100000 in
theorem c_X6_readPart (l : Launch) (D : va_G) (cI cZ cB cJ : ClassId) (b0 : Nat) (adK adV : Nat → Nat) (r0 t0 d0 t1 : Nat) (b : Nat → Nat) (L : Nat) (ap : Nat) (wp : Nat) (hL : L ≤ 100) (ha : ap ≤ L) (hB : ∀ k, b k < 256) (hd : skB b L ap < L ∧ 48 ≤ b (skB b L ap) ∧ b (skB b L ap) < 53) : Mi l yX6_readPart wsX6_readPart rm_c_X6_readPart D (TYs cI cZ cB cJ) b0 adK adV [.ref r0] [(r0, .inr (6, [.ref t0, .ref d0, .int (nI L), .int (nI ap), .int (nI wp)])), (t0, .inr (8, [.ref t1, .int (nI L)])), (t1, .inl (cI, 100, .inl (nF b)))] (fun (r : Int32) (w : va_W) => r = nI (4 + (b (skB b L ap) - 48)) ∧ w = [(r0, .inr (6, [.ref t0, .ref d0, .int (nI L), .int (nI (skB b L ap + 1)), .int (nI wp)])), (t0, .inr (8, [.ref t1, .int (nI L)])), (t1, .inl (cI, 100, .inl (nF b)))]) 0 0 := by
  refine e_M (Qf := fun A => va_Qi (fun (r : Int32) (w : va_W) => r = nI (4 + (b (skB b L ap) - 48)) ∧ w = [(r0, .inr (6, [.ref t0, .ref d0, .int (nI L), .int (nI (skB b L ap + 1)), .int (nI wp)])), (t0, .inr (8, [.ref t1, .int (nI L)])), (t1, .inl (cI, 100, .inl (nF b)))]) (Bw D A) A) (cc := cX6_readPart) (maxL := 2) (ret := (some .int)) (by decide) rfl (Nat.le_of_ble_eq_true rfl) ?_
  intro p e s m args below meth c ls A Q H locs hx hb hr hml hts hown hlk hnm hc hw hl hQ
  have hl : lv_has ls 2 [(0, .ref r0)] := hl
  have in_6 : ∀ w ∈ u_ws RX6 TX6 5, w ∈ wsX6_readPart := fun _ h => List.mem_cons_of_mem _ (List.mem_append_left _ (List.mem_append_right _ h))
  have lk_0 := hts (.fieldLink RX6 28 "PloughingMatch$RuleReader" "tape" "LPloughingMatch$Tape;") (List.mem_of_getElem? (i := 1) rfl)
  have lk_1 := hts (.fieldLink RX6 22 "PloughingMatch$RuleReader" "at" "I") (List.mem_of_getElem? (i := 2) rfl)
  refine lv_aload_n hx hb dX6_readPart_0 rfl (lv_at hl 0 rfl) ?_
  refine k_v (wr := []) (j_V ⟨hx, hb, hml, hown, hts⟩ (c_X6_skipBlanks l D cI cZ cB cJ b0 adK adV r0 t0 d0 t1 b L ap wp (by omega) (by omega) hB H.size) (cwV 0 hts gX6_readPart_X6_skipBlanks rfl rfl rfl (by decide +kernel) ⟨by decide, by decide⟩) hc hw [0, 1, 2] rfl rfl 6 0 rfl rfl rfl rfl hl.1 rfl (Nat.le_of_ble_eq_true rfl) dX6_readPart_1 ⟨by decide, by decide⟩) hc hw [0, 1, 2] [] rfl rfl (by decide) (by decide) (fun  w H locs hq hw => ?_)
  subst hq
  have hw : Wd D A s H locs [(r0, .inr (6, [.ref t0, .ref d0, .int (nI L), .int (nI (skB b L ap)), .int (nI wp)])), (t0, .inr (8, [.ref t1, .int (nI L)])), (t1, .inl (cI, 100, .inl (nF b)))] := hw
  refine lv_aload_n hx hb dX6_readPart_4 rfl (lv_at hl 0 rfl) ?_
  refine w_get (C := RX6) (T := TX6) (N := 5) (ci := 6) hx hb hts in_6 hown hc hw 0 0 rfl rfl (by decide) lk_0 rfl dX6_readPart_5 ?_
  refine lv_aload_n hx hb dX6_readPart_8 rfl (lv_at hl 0 rfl) ?_
  refine w_get (C := RX6) (T := TX6) (N := 5) (ci := 6) hx hb hts in_6 hown hc hw 0 3 rfl rfl (by decide) lk_1 rfl dX6_readPart_9 ?_
  refine k_i (wr := [(r0, .inr (6, [.ref t0, .ref d0, .int (nI L), .int (nI (skB b L ap)), .int (nI wp)]))]) (j_V ⟨hx, hb, hml, hown, hts⟩ (c_X8_byteAt l D cI cZ cB cJ b0 adK adV t0 t1 b L (skB b L ap) (by omega) (by omega) H.size) (cwV 1 hts gX6_readPart_X8_byteAt rfl rfl rfl (by decide +kernel) ⟨by decide, by decide⟩) hc hw [1, 2] rfl rfl 8 1 rfl rfl rfl rfl hl.1 rfl (Nat.le_of_ble_eq_true rfl) dX6_readPart_12 ⟨by decide, by decide⟩) hc hw [1, 2] [0] rfl rfl (by decide) (by decide) (fun r w H locs hq hw => ?_)
  obtain ⟨rfl, rfl⟩ := hq
  have hw : Wd D A s H locs [(r0, .inr (6, [.ref t0, .ref d0, .int (nI L), .int (nI (skB b L ap)), .int (nI wp)])), (t0, .inr (8, [.ref t1, .int (nI L)])), (t1, .inl (cI, 100, .inl (nF b)))] := hw
  refine lv_bipush (v := nI 48) hx hb dX6_readPart_15 (by decide) ?_
  refine wn_isub hx hb (by omega) dX6_readPart_17 ?_
  refine lv_istore_n (lv' := [(1, .int (nI ((b (skB b L ap)) - 48))), (0, .ref r0)]) hx hb dX6_readPart_18 rfl hl (by decide) rfl (fun ls hl => ?_)
  refine lv_iload_n hx hb dX6_readPart_19 rfl (lv_at hl 0 rfl) ?_
  refine wb_if_lt (tgt := 28) hx hb (by omega) dX6_readPart_20 (by decide) ?_
  refine lv_iload_n hx hb dX6_readPart_23 rfl (lv_at hl 0 rfl) ?_
  refine lv_iconst (v := nI 5) hx hb dX6_readPart_24 (by decide) ?_
  refine wb_icmp_lt (tgt := 30) hx hb (by omega) (by omega) dX6_readPart_25 (by decide) (fun c_2 => ?_) (fun c_2 => ?_)
  · skip
    refine lv_aload_n hx hb dX6_readPart_30 rfl (lv_at hl 1 rfl) ?_
    refine lv_dup hx hb dX6_readPart_31 rfl ?_
    refine w_get (C := RX6) (T := TX6) (N := 5) (ci := 6) hx hb hts in_6 hown hc hw 0 3 rfl rfl (by decide) lk_1 rfl dX6_readPart_32 ?_
    refine lv_iconst (v := nI 1) hx hb dX6_readPart_35 (by decide) ?_
    refine wn_iadd hx hb dX6_readPart_36 ?_
    refine w_put (C := RX6) (T := TX6) (N := 5) (ci := 6) (v := .int (nI (skB b L ap + 1))) (ws1 := [(r0, .inr (6, [.ref t0, .ref d0, .int (nI L), .int (nI (skB b L ap + 1)), .int (nI wp)])), (t0, .inr (8, [.ref t1, .int (nI L)])), (t1, .inl (cI, 100, .inl (nF b)))]) hx hb hts in_6 tyX6 tyX6_ok nmX6 hown hc hw 0 3 rfl rfl (by decide) lk_1 rfl rfl rfl (Nat.le_of_ble_eq_true rfl) rfl dX6_readPart_37 (fun H locs hw => ?_)
    refine lv_iconst (v := nI 4) hx hb dX6_readPart_40 (by decide) ?_
    refine lv_iload_n hx hb dX6_readPart_41 rfl (lv_at hl 0 rfl) ?_
    refine wn_iadd hx hb dX6_readPart_42 ?_
    subst hQ
    exact r_i hx hb hr rfl hlk hw ⟨rfl, rfl⟩ dX6_readPart_43
  · exact (by omega)
def rm_c_X6_readPart_no : Room := { frames := 2, cells := 0, slots := 0, locals := 41 }
set_option maxHeartbeats 4000000 in
set_option maxRecDepth 100000 in
theorem c_X6_readPart_no (l : Launch) (D : va_G) (cI cZ cB cJ : ClassId) (b0 : Nat) (adK adV : Nat → Nat) (r0 t0 d0 t1 : Nat) (b : Nat → Nat) (L : Nat) (ap : Nat) (wp : Nat) (hL : L ≤ 100) (ha : ap ≤ L) (hB : ∀ k, b k < 256) (hd : ¬ (skB b L ap < L ∧ 48 ≤ b (skB b L ap) ∧ b (skB b L ap) < 53)) : Mi l yX6_readPart wsX6_readPart rm_c_X6_readPart_no D (TYs cI cZ cB cJ) b0 adK adV [.ref r0] [(r0, .inr (6, [.ref t0, .ref d0, .int (nI L), .int (nI ap), .int (nI wp)])), (t0, .inr (8, [.ref t1, .int (nI L)])), (t1, .inl (cI, 100, .inl (nF b)))] (fun (r : Int32) (w : va_W) => r = (-1) ∧ w = [(r0, .inr (6, [.ref t0, .ref d0, .int (nI L), .int (nI (skB b L ap)), .int (nI wp)])), (t0, .inr (8, [.ref t1, .int (nI L)])), (t1, .inl (cI, 100, .inl (nF b)))]) 0 0 := by
  refine e_M (Qf := fun A => va_Qi (fun (r : Int32) (w : va_W) => r = (-1) ∧ w = [(r0, .inr (6, [.ref t0, .ref d0, .int (nI L), .int (nI (skB b L ap)), .int (nI wp)])), (t0, .inr (8, [.ref t1, .int (nI L)])), (t1, .inl (cI, 100, .inl (nF b)))]) (Bw D A) A) (cc := cX6_readPart) (maxL := 2) (ret := (some .int)) (by decide) rfl (Nat.le_of_ble_eq_true rfl) ?_
  intro p e s m args below meth c ls A Q H locs hx hb hr hml hts hown hlk hnm hc hw hl hQ
  have hl : lv_has ls 2 [(0, .ref r0)] := hl
  have in_6 : ∀ w ∈ u_ws RX6 TX6 5, w ∈ wsX6_readPart := fun _ h => List.mem_cons_of_mem _ (List.mem_append_left _ (List.mem_append_right _ h))
  have lk_0 := hts (.fieldLink RX6 28 "PloughingMatch$RuleReader" "tape" "LPloughingMatch$Tape;") (List.mem_of_getElem? (i := 1) rfl)
  have lk_1 := hts (.fieldLink RX6 22 "PloughingMatch$RuleReader" "at" "I") (List.mem_of_getElem? (i := 2) rfl)
  refine lv_aload_n hx hb dX6_readPart_0 rfl (lv_at hl 0 rfl) ?_
  refine k_v (wr := []) (j_V ⟨hx, hb, hml, hown, hts⟩ (c_X6_skipBlanks l D cI cZ cB cJ b0 adK adV r0 t0 d0 t1 b L ap wp (by omega) (by omega) hB H.size) (cwV 0 hts gX6_readPart_X6_skipBlanks rfl rfl rfl (by decide +kernel) ⟨by decide, by decide⟩) hc hw [0, 1, 2] rfl rfl 6 0 rfl rfl rfl rfl hl.1 rfl (Nat.le_of_ble_eq_true rfl) dX6_readPart_1 ⟨by decide, by decide⟩) hc hw [0, 1, 2] [] rfl rfl (by decide) (by decide) (fun  w H locs hq hw => ?_)
  subst hq
  have hw : Wd D A s H locs [(r0, .inr (6, [.ref t0, .ref d0, .int (nI L), .int (nI (skB b L ap)), .int (nI wp)])), (t0, .inr (8, [.ref t1, .int (nI L)])), (t1, .inl (cI, 100, .inl (nF b)))] := hw
  refine lv_aload_n hx hb dX6_readPart_4 rfl (lv_at hl 0 rfl) ?_
  refine w_get (C := RX6) (T := TX6) (N := 5) (ci := 6) hx hb hts in_6 hown hc hw 0 0 rfl rfl (by decide) lk_0 rfl dX6_readPart_5 ?_
  refine lv_aload_n hx hb dX6_readPart_8 rfl (lv_at hl 0 rfl) ?_
  refine w_get (C := RX6) (T := TX6) (N := 5) (ci := 6) hx hb hts in_6 hown hc hw 0 3 rfl rfl (by decide) lk_1 rfl dX6_readPart_9 ?_
  by_cases hs1 : skB b L ap < L
  · skip
    have hB1 := hB (skB b L ap)
    refine k_i (wr := [(r0, .inr (6, [.ref t0, .ref d0, .int (nI L), .int (nI (skB b L ap)), .int (nI wp)]))]) (j_V ⟨hx, hb, hml, hown, hts⟩ (c_X8_byteAt l D cI cZ cB cJ b0 adK adV t0 t1 b L (skB b L ap) (by omega) (by omega) H.size) (cwV 1 hts gX6_readPart_X8_byteAt rfl rfl rfl (by decide +kernel) ⟨by decide, by decide⟩) hc hw [1, 2] rfl rfl 8 1 rfl rfl rfl rfl hl.1 rfl (Nat.le_of_ble_eq_true rfl) dX6_readPart_12 ⟨by decide, by decide⟩) hc hw [1, 2] [0] rfl rfl (by decide) (by decide) (fun r w H locs hq hw => ?_)
    obtain ⟨rfl, rfl⟩ := hq
    have hw : Wd D A s H locs [(r0, .inr (6, [.ref t0, .ref d0, .int (nI L), .int (nI (skB b L ap)), .int (nI wp)])), (t0, .inr (8, [.ref t1, .int (nI L)])), (t1, .inl (cI, 100, .inl (nF b)))] := hw
    refine lv_bipush (v := nI 48) hx hb dX6_readPart_15 (by decide) ?_
    by_cases hs2 : 48 ≤ b (skB b L ap)
    · skip
      refine wn_isub hx hb (by omega) dX6_readPart_17 ?_
      refine lv_istore_n (lv' := [(1, .int (nI ((b (skB b L ap)) - 48))), (0, .ref r0)]) hx hb dX6_readPart_18 rfl hl (by decide) rfl (fun ls hl => ?_)
      refine lv_iload_n hx hb dX6_readPart_19 rfl (lv_at hl 0 rfl) ?_
      refine wb_if_lt (tgt := 28) hx hb (by omega) dX6_readPart_20 (by decide) ?_
      refine lv_iload_n hx hb dX6_readPart_23 rfl (lv_at hl 0 rfl) ?_
      refine lv_iconst (v := nI 5) hx hb dX6_readPart_24 (by decide) ?_
      refine wb_icmp_lt (tgt := 30) hx hb (by omega) (by omega) dX6_readPart_25 (by decide) (fun c_2 => ?_) (fun c_2 => ?_)
      · exact (by omega)
      · skip
        refine lv_iconst (v := (-1)) hx hb dX6_readPart_28 (by decide) ?_
        subst hQ
        exact r_i hx hb hr rfl hlk hw ⟨rfl, rfl⟩ dX6_readPart_29
    · skip
      refine lv_isub hx hb dX6_readPart_17 ?_
      refine lv_istore_n (lv' := [(1, .int ((nI (b (skB b L ap))) - (nI 48))), (0, .ref r0)]) hx hb dX6_readPart_18 rfl hl (by decide) rfl (fun ls hl => ?_)
      refine lv_iload_n hx hb dX6_readPart_19 rfl (lv_at hl 0 rfl) ?_
      refine lv_if_lt (tgt := 28) hx hb dX6_readPart_20 (by decide) (fun c_3 => ?_) (fun c_3 => ?_)
      · skip
        have c_3' := i32_nle.mpr c_3
        refine lv_iconst (v := (-1)) hx hb dX6_readPart_28 (by decide) ?_
        subst hQ
        exact r_i hx hb hr rfl hlk hw ⟨rfl, rfl⟩ dX6_readPart_29
      · exact (by first | exact absurd (pk_sneg (by decide) (by omega)) c_3 | exact absurd (by decide) c_3)
  · skip
    have hsL := skB_le b ha
    refine k_i (wr := [(r0, .inr (6, [.ref t0, .ref d0, .int (nI L), .int (nI (skB b L ap)), .int (nI wp)]))]) (j_V ⟨hx, hb, hml, hown, hts⟩ (c_X8_byteAt_out l D cI cZ cB cJ b0 adK adV t0 t1 b L (skB b L ap) (by omega) (by omega) (by omega) H.size) (cwV 1 hts gX6_readPart_X8_byteAt rfl rfl rfl (by decide +kernel) ⟨by decide, by decide⟩) hc hw [1, 2] rfl rfl 8 1 rfl rfl rfl rfl hl.1 rfl (Nat.le_of_ble_eq_true rfl) dX6_readPart_12 ⟨by decide, by decide⟩) hc hw [1, 2] [0] rfl rfl (by decide) (by decide) (fun r w H locs hq hw => ?_)
    obtain ⟨rfl, rfl⟩ := hq
    have hw : Wd D A s H locs [(r0, .inr (6, [.ref t0, .ref d0, .int (nI L), .int (nI (skB b L ap)), .int (nI wp)])), (t0, .inr (8, [.ref t1, .int (nI L)])), (t1, .inl (cI, 100, .inl (nF b)))] := hw
    refine lv_bipush (v := nI 48) hx hb dX6_readPart_15 (by decide) ?_
    by_cases hs2 : 48 ≤ b (skB b L ap)
    · skip
      refine lv_isub hx hb dX6_readPart_17 ?_
      refine lv_istore_n (lv' := [(1, .int ((-1) - (nI 48))), (0, .ref r0)]) hx hb dX6_readPart_18 rfl hl (by decide) rfl (fun ls hl => ?_)
      refine lv_iload_n hx hb dX6_readPart_19 rfl (lv_at hl 0 rfl) ?_
      refine lv_if_lt (tgt := 28) hx hb dX6_readPart_20 (by decide) (fun c_4 => ?_) (fun c_4 => ?_)
      · skip
        have c_4' := i32_nle.mpr c_4
        refine lv_iconst (v := (-1)) hx hb dX6_readPart_28 (by decide) ?_
        subst hQ
        exact r_i hx hb hr rfl hlk hw ⟨rfl, rfl⟩ dX6_readPart_29
      · exact (by first | exact absurd (pk_sneg (by decide) (by omega)) c_4 | exact absurd (by decide) c_4)
    · skip
      refine lv_isub hx hb dX6_readPart_17 ?_
      refine lv_istore_n (lv' := [(1, .int ((-1) - (nI 48))), (0, .ref r0)]) hx hb dX6_readPart_18 rfl hl (by decide) rfl (fun ls hl => ?_)
      refine lv_iload_n hx hb dX6_readPart_19 rfl (lv_at hl 0 rfl) ?_
      refine lv_if_lt (tgt := 28) hx hb dX6_readPart_20 (by decide) (fun c_5 => ?_) (fun c_5 => ?_)
      · skip
        have c_5' := i32_nle.mpr c_5
        refine lv_iconst (v := (-1)) hx hb dX6_readPart_28 (by decide) ?_
        subst hQ
        exact r_i hx hb hr rfl hlk hw ⟨rfl, rfl⟩ dX6_readPart_29
      · exact (by first | exact absurd (pk_sneg (by decide) (by omega)) c_5 | exact absurd (by decide) c_5)
