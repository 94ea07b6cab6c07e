def rm_c_X6_readMeasure : Room := { frames := 5, cells := 0, slots := 0, locals := 107 }
set_option maxHeartbeats 4000000 in
set_option maxRecDepth 100000 in
theorem c_X6_readMeasure (l : Launch) (D : va_G) (cI cZ cB cJ : ClassId) (b0 : Nat) (adK adV : Nat → Nat) (r0 t0 d0 t1 : Nat) (b : Nat → Nat) (L : Nat) (ap : Nat) (wp : Nat) (mz : Nat) (a1 : Nat) (hL : L ≤ 100) (ha : ap ≤ L) (hB : ∀ k, b k < 256) (hrm : rm b L ap = some (mz, a1)) : Mi l yX6_readMeasure wsX6_readMeasure rm_c_X6_readMeasure D (TYs cI cZ cB cJ) b0 adK adV [.ref r0] [(r0, .inr (6, [.ref t0, .ref d0, .int (nI L), .int (nI ap), .int (nI wp)])), (t0, .inr (8, [.ref t1, .int (nI L)])), (t1, .inl (cI, 100, .inl (nF b)))] (fun (r : Int32) (w : va_W) => r = nI mz ∧ w = [(r0, .inr (6, [.ref t0, .ref d0, .int (nI L), .int (nI a1), .int (nI (skB b L ap))])), (t0, .inr (8, [.ref t1, .int (nI L)])), (t1, .inl (cI, 100, .inl (nF b)))]) 0 0 := by
  refine e_M (Qf := fun A => va_Qi (fun (r : Int32) (w : va_W) => r = nI mz ∧ w = [(r0, .inr (6, [.ref t0, .ref d0, .int (nI L), .int (nI a1), .int (nI (skB b L ap))])), (t0, .inr (8, [.ref t1, .int (nI L)])), (t1, .inl (cI, 100, .inl (nF b)))]) (Bw D A) A) (cc := cX6_readMeasure) (maxL := 1) (ret := (some .int)) (by decide) rfl (Nat.le_of_ble_eq_true rfl) ?_
  intro p e s m args below meth c ls A Q H locs hx hb hr hml hts hown hlk hnm hc hw hl hQ
  have hl : lv_has ls 1 [(0, .ref r0)] := hl
  have in_6 : ∀ w ∈ u_ws RX6 TX6 5, w ∈ wsX6_readMeasure := fun _ h => List.mem_cons_of_mem _ (List.mem_append_left _ (List.mem_append_right _ h))
  have lk_0 := hts (.fieldLink RX6 25 "PloughingMatch$RuleReader" "wordStart" "I") (List.mem_of_getElem? (i := 1) rfl)
  have lk_1 := hts (.fieldLink RX6 22 "PloughingMatch$RuleReader" "at" "I") (List.mem_of_getElem? (i := 2) rfl)
  refine lv_aload_n hx hb dX6_readMeasure_0 rfl (lv_at hl 0 rfl) ?_
  refine k_v (wr := []) (j_V ⟨hx, hb, hml, hown, hts⟩ (c_X6_readWord l D cI cZ cB cJ b0 adK adV r0 t0 d0 t1 b L ap wp (by omega) (by omega) hB H.size) (cwV 0 hts gX6_readMeasure_X6_readWord rfl rfl rfl (by decide +kernel) ⟨by decide, by decide⟩) hc hw [0, 1, 2] rfl rfl 6 0 rfl rfl rfl rfl hl.1 rfl (Nat.le_of_ble_eq_true rfl) dX6_readMeasure_1 ⟨by decide, by decide⟩) hc hw [0, 1, 2] [] rfl rfl (by decide) (by decide) (fun  w H locs hq hw => ?_)
  subst hq
  have hw : Wd D A s H locs [(r0, .inr (6, [.ref t0, .ref d0, .int (nI L), .int (nI (wdE b L (skB b L ap))), .int (nI (skB b L ap))])), (t0, .inr (8, [.ref t1, .int (nI L)])), (t1, .inl (cI, 100, .inl (nF b)))] := hw
  refine lv_aload_n hx hb dX6_readMeasure_4 rfl (lv_at hl 0 rfl) ?_
  refine va_ldcS hx hb hown (hc.2.2.2.2.2.2.1 _ (List.mem_of_getElem? (i := 0) rfl)) dX6_readMeasure_5 ?_
  refine k_i (wr := []) (j_V ⟨hx, hb, hml, hown, hts⟩ (c_X6_isWord l D cI cZ cB cJ b0 adK adV r0 t0 d0 t1 b L (wdE b L (skB b L ap)) (skB b L ap) 0 (by omega) (wdE_le b (skB_le b ha)) (wdE_ge b L _) (by decide) hB H.size) (cwV 1 hts gX6_readMeasure_X6_isWord rfl rfl rfl (by decide +kernel) ⟨by decide, by decide⟩) hc hw [0, 1, 2] rfl rfl 6 0 rfl rfl rfl rfl hl.1 rfl (Nat.le_of_ble_eq_true rfl) dX6_readMeasure_7 ⟨by decide, by decide⟩) hc hw [0, 1, 2] [] rfl rfl (by decide) (by decide) (fun r w H locs hq hw => ?_)
  obtain ⟨rfl, rfl⟩ := hq
  have hw : Wd D A s H locs [(r0, .inr (6, [.ref t0, .ref d0, .int (nI L), .int (nI ((wdE b L (skB b L ap)))), .int (nI ((skB b L ap)))])), (t0, .inr (8, [.ref t1, .int (nI L)])), (t1, .inl (cI, 100, .inl (nF b)))] := hw
  refine wz_if_eq (tgt := 15) hx hb dX6_readMeasure_10 (by decide) (fun c_1 => ?_) (fun c_1 => ?_)
  · skip
    refine lv_aload_n hx hb dX6_readMeasure_15 rfl (lv_at hl 0 rfl) ?_
    refine va_ldcS hx hb hown (hc.2.2.2.2.2.2.1 _ (List.mem_of_getElem? (i := 1) rfl)) dX6_readMeasure_16 ?_
    refine k_i (wr := []) (j_V ⟨hx, hb, hml, hown, hts⟩ (c_X6_isWord l D cI cZ cB cJ b0 adK adV r0 t0 d0 t1 b L (wdE b L (skB b L ap)) (skB b L ap) 1 (by omega) (wdE_le b (skB_le b ha)) (wdE_ge b L _) (by decide) hB H.size) (cwV 1 hts gX6_readMeasure_X6_isWord rfl rfl rfl (by decide +kernel) ⟨by decide, by decide⟩) hc hw [0, 1, 2] rfl rfl 6 0 rfl rfl rfl rfl hl.1 rfl (Nat.le_of_ble_eq_true rfl) dX6_readMeasure_18 ⟨by decide, by decide⟩) hc hw [0, 1, 2] [] rfl rfl (by decide) (by decide) (fun r w H locs hq hw => ?_)
    obtain ⟨rfl, rfl⟩ := hq
    have hw : Wd D A s H locs [(r0, .inr (6, [.ref t0, .ref d0, .int (nI L), .int (nI ((wdE b L (skB b L ap)))), .int (nI ((skB b L ap)))])), (t0, .inr (8, [.ref t1, .int (nI L)])), (t1, .inl (cI, 100, .inl (nF b)))] := hw
    refine wz_if_eq (tgt := 26) hx hb dX6_readMeasure_21 (by decide) (fun c_2 => ?_) (fun c_2 => ?_)
    · skip
      refine lv_aload_n hx hb dX6_readMeasure_26 rfl (lv_at hl 0 rfl) ?_
      refine va_ldcS hx hb hown (hc.2.2.2.2.2.2.1 _ (List.mem_of_getElem? (i := 2) rfl)) dX6_readMeasure_27 ?_
      refine k_i (wr := []) (j_V ⟨hx, hb, hml, hown, hts⟩ (c_X6_isWord l D cI cZ cB cJ b0 adK adV r0 t0 d0 t1 b L (wdE b L (skB b L ap)) (skB b L ap) 2 (by omega) (wdE_le b (skB_le b ha)) (wdE_ge b L _) (by decide) hB H.size) (cwV 1 hts gX6_readMeasure_X6_isWord rfl rfl rfl (by decide +kernel) ⟨by decide, by decide⟩) hc hw [0, 1, 2] rfl rfl 6 0 rfl rfl rfl rfl hl.1 rfl (Nat.le_of_ble_eq_true rfl) dX6_readMeasure_29 ⟨by decide, by decide⟩) hc hw [0, 1, 2] [] rfl rfl (by decide) (by decide) (fun r w H locs hq hw => ?_)
      obtain ⟨rfl, rfl⟩ := hq
      have hw : Wd D A s H locs [(r0, .inr (6, [.ref t0, .ref d0, .int (nI L), .int (nI ((wdE b L (skB b L ap)))), .int (nI ((skB b L ap)))])), (t0, .inr (8, [.ref t1, .int (nI L)])), (t1, .inl (cI, 100, .inl (nF b)))] := hw
      refine wz_if_eq (tgt := 37) hx hb dX6_readMeasure_32 (by decide) (fun c_3 => ?_) (fun c_3 => ?_)
      · skip
        refine lv_aload_n hx hb dX6_readMeasure_37 rfl (lv_at hl 0 rfl) ?_
        refine va_ldcS hx hb hown (hc.2.2.2.2.2.2.1 _ (List.mem_of_getElem? (i := 3) rfl)) dX6_readMeasure_38 ?_
        refine k_i (wr := []) (j_V ⟨hx, hb, hml, hown, hts⟩ (c_X6_isWord l D cI cZ cB cJ b0 adK adV r0 t0 d0 t1 b L (wdE b L (skB b L ap)) (skB b L ap) 3 (by omega) (wdE_le b (skB_le b ha)) (wdE_ge b L _) (by decide) hB H.size) (cwV 1 hts gX6_readMeasure_X6_isWord rfl rfl rfl (by decide +kernel) ⟨by decide, by decide⟩) hc hw [0, 1, 2] rfl rfl 6 0 rfl rfl rfl rfl hl.1 rfl (Nat.le_of_ble_eq_true rfl) dX6_readMeasure_40 ⟨by decide, by decide⟩) hc hw [0, 1, 2] [] rfl rfl (by decide) (by decide) (fun r w H locs hq hw => ?_)
        obtain ⟨rfl, rfl⟩ := hq
        have hw : Wd D A s H locs [(r0, .inr (6, [.ref t0, .ref d0, .int (nI L), .int (nI ((wdE b L (skB b L ap)))), .int (nI ((skB b L ap)))])), (t0, .inr (8, [.ref t1, .int (nI L)])), (t1, .inl (cI, 100, .inl (nF b)))] := hw
        refine wz_if_eq (tgt := 48) hx hb dX6_readMeasure_43 (by decide) (fun c_4 => ?_) (fun c_4 => ?_)
        · skip
          refine lv_aload_n hx hb dX6_readMeasure_48 rfl (lv_at hl 0 rfl) ?_
          refine va_ldcS hx hb hown (hc.2.2.2.2.2.2.1 _ (List.mem_of_getElem? (i := 4) rfl)) dX6_readMeasure_49 ?_
          refine k_i (wr := []) (j_V ⟨hx, hb, hml, hown, hts⟩ (c_X6_isWord l D cI cZ cB cJ b0 adK adV r0 t0 d0 t1 b L (wdE b L (skB b L ap)) (skB b L ap) 4 (by omega) (wdE_le b (skB_le b ha)) (wdE_ge b L _) (by decide) hB H.size) (cwV 1 hts gX6_readMeasure_X6_isWord rfl rfl rfl (by decide +kernel) ⟨by decide, by decide⟩) hc hw [0, 1, 2] rfl rfl 6 0 rfl rfl rfl rfl hl.1 rfl (Nat.le_of_ble_eq_true rfl) dX6_readMeasure_51 ⟨by decide, by decide⟩) hc hw [0, 1, 2] [] rfl rfl (by decide) (by decide) (fun r w H locs hq hw => ?_)
          obtain ⟨rfl, rfl⟩ := hq
          have hw : Wd D A s H locs [(r0, .inr (6, [.ref t0, .ref d0, .int (nI L), .int (nI ((wdE b L (skB b L ap)))), .int (nI ((skB b L ap)))])), (t0, .inr (8, [.ref t1, .int (nI L)])), (t1, .inl (cI, 100, .inl (nF b)))] := hw
          refine wz_if_eq (tgt := 62) hx hb dX6_readMeasure_54 (by decide) (fun c_5 => ?_) (fun c_5 => ?_)
          · skip
            refine lv_aload_n hx hb dX6_readMeasure_62 rfl (lv_at hl 0 rfl) ?_
            refine lv_aload_n hx hb dX6_readMeasure_63 rfl (lv_at hl 0 rfl) ?_
            refine w_get (C := RX6) (T := TX6) (N := 5) (ci := 6) hx hb hts in_6 hown hc hw 0 4 rfl rfl (by decide) lk_0 rfl dX6_readMeasure_64 ?_
            refine w_put (C := RX6) (T := TX6) (N := 5) (ci := 6) (v := .int (nI ((skB b L ap)))) (ws1 := [(r0, .inr (6, [.ref t0, .ref d0, .int (nI L), .int (nI ((skB b L ap))), .int (nI ((skB b L ap)))])), (t0, .inr (8, [.ref t1, .int (nI L)])), (t1, .inl (cI, 100, .inl (nF b)))]) hx hb hts in_6 tyX6 tyX6_ok nmX6 hown hc hw 0 3 rfl rfl (by decide) lk_1 rfl rfl rfl (Nat.le_of_ble_eq_true rfl) rfl dX6_readMeasure_67 (fun H locs hw => ?_)
            refine lv_iconst (v := (-1)) hx hb dX6_readMeasure_70 (by decide) ?_
            exact absurd hrm (by simp [rm, c_1, c_2, c_3, c_4, c_5])
          · skip
            refine lv_aload_n hx hb dX6_readMeasure_57 rfl (lv_at hl 0 rfl) ?_
            have hd9 : skB b L (wdE b L (skB b L ap)) < L ∧ 48 ≤ b (skB b L (wdE b L (skB b L ap))) ∧ b (skB b L (wdE b L (skB b L ap))) < 53 := rm_part hrm (by assumption) (by assumption) (by assumption) (by assumption) (by assumption)
            refine k_i (wr := []) (j_V ⟨hx, hb, hml, hown, hts⟩ (c_X6_readPart l D cI cZ cB cJ b0 adK adV r0 t0 d0 t1 b L (wdE b L (skB b L ap)) (skB b L ap) (by omega) (wdE_le b (skB_le b ha)) hB hd9 H.size) (cwV 0 hts gX6_readMeasure_X6_readPart rfl rfl rfl (by decide +kernel) ⟨by decide, by decide⟩) hc hw [0, 1, 2] rfl rfl 6 0 rfl rfl rfl rfl hl.1 rfl (Nat.le_of_ble_eq_true rfl) dX6_readMeasure_58 ⟨by decide, by decide⟩) hc hw [0, 1, 2] [] rfl rfl (by decide) (by decide) (fun r w H locs hq hw => ?_)
            obtain ⟨rfl, rfl⟩ := hq
            have hw : Wd D A s H locs [(r0, .inr (6, [.ref t0, .ref d0, .int (nI L), .int (nI (skB b L (wdE b L (skB b L ap)) + 1)), .int (nI ((skB b L ap)))])), (t0, .inr (8, [.ref t1, .int (nI L)])), (t1, .inl (cI, 100, .inl (nF b)))] := hw
            simp [rm, hd9, c_1, c_2, c_3, c_4, c_5] at hrm; obtain ⟨rfl, rfl⟩ := hrm
            subst hQ
            exact r_i hx hb hr rfl hlk hw ⟨rfl, rfl⟩ dX6_readMeasure_61
        · skip
          refine lv_iconst (v := nI 3) hx hb dX6_readMeasure_46 (by decide) ?_
          simp [rm, c_1, c_2, c_3, c_4] at hrm; obtain ⟨rfl, rfl⟩ := hrm
          subst hQ
          exact r_i hx hb hr rfl hlk hw ⟨rfl, rfl⟩ dX6_readMeasure_47
      · skip
        refine lv_iconst (v := nI 2) hx hb dX6_readMeasure_35 (by decide) ?_
        simp [rm, c_1, c_2, c_3] at hrm; obtain ⟨rfl, rfl⟩ := hrm
        subst hQ
        exact r_i hx hb hr rfl hlk hw ⟨rfl, rfl⟩ dX6_readMeasure_36
    · skip
      refine lv_iconst (v := nI 1) hx hb dX6_readMeasure_24 (by decide) ?_
      simp [rm, c_1, c_2] at hrm; obtain ⟨rfl, rfl⟩ := hrm
      subst hQ
      exact r_i hx hb hr rfl hlk hw ⟨rfl, rfl⟩ dX6_readMeasure_25
  · skip
    refine lv_iconst (v := nI 0) hx hb dX6_readMeasure_13 (by decide) ?_
    simp [rm, c_1] at hrm; obtain ⟨rfl, rfl⟩ := hrm
    subst hQ
    exact r_i hx hb hr rfl hlk hw ⟨rfl, rfl⟩ dX6_readMeasure_14
def rm_c_X6_readMeasure_no : Room := { frames := 5, cells := 0, slots := 0, locals := 107 }
set_option maxHeartbeats 4000000 in
set_option maxRecDepth 100000 in
theorem c_X6_readMeasure_no (l : Launch) (D : va_G) (cI cZ cB cJ : ClassId) (b0 : Nat) (adK adV : Nat → Nat) (r0 t0 d0 t1 : Nat) (b : Nat → Nat) (L : Nat) (ap : Nat) (wp : Nat) (hL : L ≤ 100) (ha : ap ≤ L) (hB : ∀ k, b k < 256) (hrm : rm b L ap = none) : Mi l yX6_readMeasure wsX6_readMeasure rm_c_X6_readMeasure_no D (TYs cI cZ cB cJ) b0 adK adV [.ref r0] [(r0, .inr (6, [.ref t0, .ref d0, .int (nI L), .int (nI ap), .int (nI wp)])), (t0, .inr (8, [.ref t1, .int (nI L)])), (t1, .inl (cI, 100, .inl (nF b)))] (fun (r : Int32) (w : va_W) => r = (-1) ∧ w = [(r0, .inr (6, [.ref t0, .ref d0, .int (nI L), .int (nI (rmF b L ap)), .int (nI (skB b L ap))])), (t0, .inr (8, [.ref t1, .int (nI L)])), (t1, .inl (cI, 100, .inl (nF b)))]) 0 0 := by
  refine e_M (Qf := fun A => va_Qi (fun (r : Int32) (w : va_W) => r = (-1) ∧ w = [(r0, .inr (6, [.ref t0, .ref d0, .int (nI L), .int (nI (rmF b L ap)), .int (nI (skB b L ap))])), (t0, .inr (8, [.ref t1, .int (nI L)])), (t1, .inl (cI, 100, .inl (nF b)))]) (Bw D A) A) (cc := cX6_readMeasure) (maxL := 1) (ret := (some .int)) (by decide) rfl (Nat.le_of_ble_eq_true rfl) ?_
  intro p e s m args below meth c ls A Q H locs hx hb hr hml hts hown hlk hnm hc hw hl hQ
  have hl : lv_has ls 1 [(0, .ref r0)] := hl
  have in_6 : ∀ w ∈ u_ws RX6 TX6 5, w ∈ wsX6_readMeasure := fun _ h => List.mem_cons_of_mem _ (List.mem_append_left _ (List.mem_append_right _ h))
  have lk_0 := hts (.fieldLink RX6 25 "PloughingMatch$RuleReader" "wordStart" "I") (List.mem_of_getElem? (i := 1) rfl)
  have lk_1 := hts (.fieldLink RX6 22 "PloughingMatch$RuleReader" "at" "I") (List.mem_of_getElem? (i := 2) rfl)
  refine lv_aload_n hx hb dX6_readMeasure_0 rfl (lv_at hl 0 rfl) ?_
  refine k_v (wr := []) (j_V ⟨hx, hb, hml, hown, hts⟩ (c_X6_readWord l D cI cZ cB cJ b0 adK adV r0 t0 d0 t1 b L ap wp (by omega) (by omega) hB H.size) (cwV 0 hts gX6_readMeasure_X6_readWord rfl rfl rfl (by decide +kernel) ⟨by decide, by decide⟩) hc hw [0, 1, 2] rfl rfl 6 0 rfl rfl rfl rfl hl.1 rfl (Nat.le_of_ble_eq_true rfl) dX6_readMeasure_1 ⟨by decide, by decide⟩) hc hw [0, 1, 2] [] rfl rfl (by decide) (by decide) (fun  w H locs hq hw => ?_)
  subst hq
  have hw : Wd D A s H locs [(r0, .inr (6, [.ref t0, .ref d0, .int (nI L), .int (nI (wdE b L (skB b L ap))), .int (nI (skB b L ap))])), (t0, .inr (8, [.ref t1, .int (nI L)])), (t1, .inl (cI, 100, .inl (nF b)))] := hw
  refine lv_aload_n hx hb dX6_readMeasure_4 rfl (lv_at hl 0 rfl) ?_
  refine va_ldcS hx hb hown (hc.2.2.2.2.2.2.1 _ (List.mem_of_getElem? (i := 0) rfl)) dX6_readMeasure_5 ?_
  refine k_i (wr := []) (j_V ⟨hx, hb, hml, hown, hts⟩ (c_X6_isWord l D cI cZ cB cJ b0 adK adV r0 t0 d0 t1 b L (wdE b L (skB b L ap)) (skB b L ap) 0 (by omega) (wdE_le b (skB_le b ha)) (wdE_ge b L _) (by decide) hB H.size) (cwV 1 hts gX6_readMeasure_X6_isWord rfl rfl rfl (by decide +kernel) ⟨by decide, by decide⟩) hc hw [0, 1, 2] rfl rfl 6 0 rfl rfl rfl rfl hl.1 rfl (Nat.le_of_ble_eq_true rfl) dX6_readMeasure_7 ⟨by decide, by decide⟩) hc hw [0, 1, 2] [] rfl rfl (by decide) (by decide) (fun r w H locs hq hw => ?_)
  obtain ⟨rfl, rfl⟩ := hq
  have hw : Wd D A s H locs [(r0, .inr (6, [.ref t0, .ref d0, .int (nI L), .int (nI ((wdE b L (skB b L ap)))), .int (nI ((skB b L ap)))])), (t0, .inr (8, [.ref t1, .int (nI L)])), (t1, .inl (cI, 100, .inl (nF b)))] := hw
  refine wz_if_eq (tgt := 15) hx hb dX6_readMeasure_10 (by decide) (fun c_1 => ?_) (fun c_1 => ?_)
  · skip
    refine lv_aload_n hx hb dX6_readMeasure_15 rfl (lv_at hl 0 rfl) ?_
    refine va_ldcS hx hb hown (hc.2.2.2.2.2.2.1 _ (List.mem_of_getElem? (i := 1) rfl)) dX6_readMeasure_16 ?_
    refine k_i (wr := []) (j_V ⟨hx, hb, hml, hown, hts⟩ (c_X6_isWord l D cI cZ cB cJ b0 adK adV r0 t0 d0 t1 b L (wdE b L (skB b L ap)) (skB b L ap) 1 (by omega) (wdE_le b (skB_le b ha)) (wdE_ge b L _) (by decide) hB H.size) (cwV 1 hts gX6_readMeasure_X6_isWord rfl rfl rfl (by decide +kernel) ⟨by decide, by decide⟩) hc hw [0, 1, 2] rfl rfl 6 0 rfl rfl rfl rfl hl.1 rfl (Nat.le_of_ble_eq_true rfl) dX6_readMeasure_18 ⟨by decide, by decide⟩) hc hw [0, 1, 2] [] rfl rfl (by decide) (by decide) (fun r w H locs hq hw => ?_)
    obtain ⟨rfl, rfl⟩ := hq
    have hw : Wd D A s H locs [(r0, .inr (6, [.ref t0, .ref d0, .int (nI L), .int (nI ((wdE b L (skB b L ap)))), .int (nI ((skB b L ap)))])), (t0, .inr (8, [.ref t1, .int (nI L)])), (t1, .inl (cI, 100, .inl (nF b)))] := hw
    refine wz_if_eq (tgt := 26) hx hb dX6_readMeasure_21 (by decide) (fun c_2 => ?_) (fun c_2 => ?_)
    · skip
      refine lv_aload_n hx hb dX6_readMeasure_26 rfl (lv_at hl 0 rfl) ?_
      refine va_ldcS hx hb hown (hc.2.2.2.2.2.2.1 _ (List.mem_of_getElem? (i := 2) rfl)) dX6_readMeasure_27 ?_
      refine k_i (wr := []) (j_V ⟨hx, hb, hml, hown, hts⟩ (c_X6_isWord l D cI cZ cB cJ b0 adK adV r0 t0 d0 t1 b L (wdE b L (skB b L ap)) (skB b L ap) 2 (by omega) (wdE_le b (skB_le b ha)) (wdE_ge b L _) (by decide) hB H.size) (cwV 1 hts gX6_readMeasure_X6_isWord rfl rfl rfl (by decide +kernel) ⟨by decide, by decide⟩) hc hw [0, 1, 2] rfl rfl 6 0 rfl rfl rfl rfl hl.1 rfl (Nat.le_of_ble_eq_true rfl) dX6_readMeasure_29 ⟨by decide, by decide⟩) hc hw [0, 1, 2] [] rfl rfl (by decide) (by decide) (fun r w H locs hq hw => ?_)
      obtain ⟨rfl, rfl⟩ := hq
      have hw : Wd D A s H locs [(r0, .inr (6, [.ref t0, .ref d0, .int (nI L), .int (nI ((wdE b L (skB b L ap)))), .int (nI ((skB b L ap)))])), (t0, .inr (8, [.ref t1, .int (nI L)])), (t1, .inl (cI, 100, .inl (nF b)))] := hw
      refine wz_if_eq (tgt := 37) hx hb dX6_readMeasure_32 (by decide) (fun c_3 => ?_) (fun c_3 => ?_)
      · skip
        refine lv_aload_n hx hb dX6_readMeasure_37 rfl (lv_at hl 0 rfl) ?_
        refine va_ldcS hx hb hown (hc.2.2.2.2.2.2.1 _ (List.mem_of_getElem? (i := 3) rfl)) dX6_readMeasure_38 ?_
        refine k_i (wr := []) (j_V ⟨hx, hb, hml, hown, hts⟩ (c_X6_isWord l D cI cZ cB cJ b0 adK adV r0 t0 d0 t1 b L (wdE b L (skB b L ap)) (skB b L ap) 3 (by omega) (wdE_le b (skB_le b ha)) (wdE_ge b L _) (by decide) hB H.size) (cwV 1 hts gX6_readMeasure_X6_isWord rfl rfl rfl (by decide +kernel) ⟨by decide, by decide⟩) hc hw [0, 1, 2] rfl rfl 6 0 rfl rfl rfl rfl hl.1 rfl (Nat.le_of_ble_eq_true rfl) dX6_readMeasure_40 ⟨by decide, by decide⟩) hc hw [0, 1, 2] [] rfl rfl (by decide) (by decide) (fun r w H locs hq hw => ?_)
        obtain ⟨rfl, rfl⟩ := hq
        have hw : Wd D A s H locs [(r0, .inr (6, [.ref t0, .ref d0, .int (nI L), .int (nI ((wdE b L (skB b L ap)))), .int (nI ((skB b L ap)))])), (t0, .inr (8, [.ref t1, .int (nI L)])), (t1, .inl (cI, 100, .inl (nF b)))] := hw
        refine wz_if_eq (tgt := 48) hx hb dX6_readMeasure_43 (by decide) (fun c_4 => ?_) (fun c_4 => ?_)
        · skip
          refine lv_aload_n hx hb dX6_readMeasure_48 rfl (lv_at hl 0 rfl) ?_
          refine va_ldcS hx hb hown (hc.2.2.2.2.2.2.1 _ (List.mem_of_getElem? (i := 4) rfl)) dX6_readMeasure_49 ?_
          refine k_i (wr := []) (j_V ⟨hx, hb, hml, hown, hts⟩ (c_X6_isWord l D cI cZ cB cJ b0 adK adV r0 t0 d0 t1 b L (wdE b L (skB b L ap)) (skB b L ap) 4 (by omega) (wdE_le b (skB_le b ha)) (wdE_ge b L _) (by decide) hB H.size) (cwV 1 hts gX6_readMeasure_X6_isWord rfl rfl rfl (by decide +kernel) ⟨by decide, by decide⟩) hc hw [0, 1, 2] rfl rfl 6 0 rfl rfl rfl rfl hl.1 rfl (Nat.le_of_ble_eq_true rfl) dX6_readMeasure_51 ⟨by decide, by decide⟩) hc hw [0, 1, 2] [] rfl rfl (by decide) (by decide) (fun r w H locs hq hw => ?_)
          obtain ⟨rfl, rfl⟩ := hq
          have hw : Wd D A s H locs [(r0, .inr (6, [.ref t0, .ref d0, .int (nI L), .int (nI ((wdE b L (skB b L ap)))), .int (nI ((skB b L ap)))])), (t0, .inr (8, [.ref t1, .int (nI L)])), (t1, .inl (cI, 100, .inl (nF b)))] := hw
          refine wz_if_eq (tgt := 62) hx hb dX6_readMeasure_54 (by decide) (fun c_5 => ?_) (fun c_5 => ?_)
          · skip
            refine lv_aload_n hx hb dX6_readMeasure_62 rfl (lv_at hl 0 rfl) ?_
            refine lv_aload_n hx hb dX6_readMeasure_63 rfl (lv_at hl 0 rfl) ?_
            refine w_get (C := RX6) (T := TX6) (N := 5) (ci := 6) hx hb hts in_6 hown hc hw 0 4 rfl rfl (by decide) lk_0 rfl dX6_readMeasure_64 ?_
            refine w_put (C := RX6) (T := TX6) (N := 5) (ci := 6) (v := .int (nI ((skB b L ap)))) (ws1 := [(r0, .inr (6, [.ref t0, .ref d0, .int (nI L), .int (nI ((skB b L ap))), .int (nI ((skB b L ap)))])), (t0, .inr (8, [.ref t1, .int (nI L)])), (t1, .inl (cI, 100, .inl (nF b)))]) hx hb hts in_6 tyX6 tyX6_ok nmX6 hown hc hw 0 3 rfl rfl (by decide) lk_1 rfl rfl rfl (Nat.le_of_ble_eq_true rfl) rfl dX6_readMeasure_67 (fun H locs hw => ?_)
            refine lv_iconst (v := (-1)) hx hb dX6_readMeasure_70 (by decide) ?_
            subst hQ
            exact r_i hx hb hr rfl hlk hw ⟨rfl, (by simp [rmF, c_1, c_2, c_3, c_4, c_5])⟩ dX6_readMeasure_71
          · skip
            refine lv_aload_n hx hb dX6_readMeasure_57 rfl (lv_at hl 0 rfl) ?_
            have hd9 : ¬ (skB b L (wdE b L (skB b L ap)) < L ∧ 48 ≤ b (skB b L (wdE b L (skB b L ap))) ∧ b (skB b L (wdE b L (skB b L ap))) < 53) := rm_part_no hrm (by assumption) (by assumption) (by assumption) (by assumption) (by assumption)
            refine k_i (wr := []) (j_V ⟨hx, hb, hml, hown, hts⟩ (c_X6_readPart_no l D cI cZ cB cJ b0 adK adV r0 t0 d0 t1 b L (wdE b L (skB b L ap)) (skB b L ap) (by omega) (wdE_le b (skB_le b ha)) hB hd9 H.size) (cwV 0 hts gX6_readMeasure_X6_readPart rfl rfl rfl (by decide +kernel) ⟨by decide, by decide⟩) hc hw [0, 1, 2] rfl rfl 6 0 rfl rfl rfl rfl hl.1 rfl (Nat.le_of_ble_eq_true rfl) dX6_readMeasure_58 ⟨by decide, by decide⟩) hc hw [0, 1, 2] [] rfl rfl (by decide) (by decide) (fun r w H locs hq hw => ?_)
            obtain ⟨rfl, rfl⟩ := hq
            have hw : Wd D A s H locs [(r0, .inr (6, [.ref t0, .ref d0, .int (nI L), .int (nI (skB b L (wdE b L (skB b L ap)))), .int (nI ((skB b L ap)))])), (t0, .inr (8, [.ref t1, .int (nI L)])), (t1, .inl (cI, 100, .inl (nF b)))] := hw
            subst hQ
            exact r_i hx hb hr rfl hlk hw ⟨rfl, (by simp [rmF, c_1, c_2, c_3, c_4, c_5])⟩ dX6_readMeasure_61
        · skip
          refine lv_iconst (v := nI 3) hx hb dX6_readMeasure_46 (by decide) ?_
          exact absurd hrm (by simp [rm, c_1, c_2, c_3, c_4])
      · skip
        refine lv_iconst (v := nI 2) hx hb dX6_readMeasure_35 (by decide) ?_
        exact absurd hrm (by simp [rm, c_1, c_2, c_3])
    · skip
      refine lv_iconst (v := nI 1) hx hb dX6_readMeasure_24 (by decide) ?_
      exact absurd hrm (by simp [rm, c_1, c_2])
  · skip
    refine lv_iconst (v := nI 0) hx hb dX6_readMeasure_13 (by decide) ?_
    exact absurd hrm (by simp [rm, c_1])
