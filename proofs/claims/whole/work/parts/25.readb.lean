def rm_c_X6_readMeasure : Room := { frames := 5, cells := 0, slots := 0, locals := 107 }
set_option maxHeartbeats 4000000 in
set_option maxRecDepth 100000 in
theorem c_X6_readMeasure (l : Launch) (D : va_G) (cI cZ cB cJ : ClassId) (b0 : Nat) (adK adV : Nat → Nat) (r0 t0 d0 t1 : Nat) (b : Nat → Nat) (L : Nat) (ap : Nat) (wp : Nat) (mz : Nat) (a1 : Nat) (hL : L ≤ 100) (ha : ap ≤ L) (hB : ∀ k, b k < 256) (hrm : rm b L ap = some (mz, a1)) : Mi l yX6_readMeasure wsX6_readMeasure rm_c_X6_readMeasure D (TYs cI cZ cB cJ) b0 adK adV [.ref r0] [(r0, .inr (6, [.ref t0, .ref d0, .int (nI L), .int (nI ap), .int (nI wp)])), (t0, .inr (8, [.ref t1, .int (nI L)])), (t1, .inl (cI, 100, .inl (nF b)))] (fun (r : Int32) (w : va_W) => r = nI mz ∧ w = [(r0, .inr (6, [.ref t0, .ref d0, .int (nI L), .int (nI a1), .int (nI (skB b L ap))])), (t0, .inr (8, [.ref t1, .int (nI L)])), (t1, .inl (cI, 100, .inl (nF b)))]) 0 0 := by
  refine e_M (Qf := fun A => va_Qi (fun (r : Int32) (w : va_W) => r = nI mz ∧ w = [(r0, .inr (6, [.ref t0, .ref d0, .int (nI L), .int (nI a1), .int (nI (skB b L ap))])), (t0, .inr (8, [.ref t1, .int (nI L)])), (t1, .inl (cI, 100, .inl (nF b)))]) (Bw D A) A) (cc := cX6_readMeasure) (maxL := 1) (ret := (some .int)) (by decide) rfl (Nat.le_of_ble_eq_true rfl) ?_
  intro p e s m args below meth c ls A Q H locs hx hb hr hml hts hown hlk hnm hc hw hl hQ
  have hl : lv_has ls 1 [(0, .ref r0)] := hl
  have in_6 : ∀ w ∈ u_ws RX6 TX6 5, w ∈ wsX6_readMeasure := fun _ h => List.mem_cons_of_mem _ (List.mem_append_left _ (List.mem_append_right _ h))
  have lk_0 := hts (.fieldLink RX6 25 "PloughingMatch$RuleReader" "wordStart" "I") (List.mem_of_getElem? (i := 1) rfl)
  have lk_1 := hts (.fieldLink RX6 22 "PloughingMatch$RuleReader" "at" "I") (List.mem_of_getElem? (i := 2) rfl)
  have hst0 : vk_R RX6 70 "final" (adK 0) s := hc.2.2.2.2.2.2.1 (RX6, 70, "final", 0) (List.mem_of_getElem? (i := 0) rfl)
  have hst1 : vk_R RX6 72 "sum" (adK 1) s := hc.2.2.2.2.2.2.1 (RX6, 72, "sum", 1) (List.mem_of_getElem? (i := 1) rfl)
  have hst2 : vk_R RX6 74 "minutes" (adK 2) s := hc.2.2.2.2.2.2.1 (RX6, 74, "minutes", 2) (List.mem_of_getElem? (i := 2) rfl)
  have hst3 : vk_R RX6 76 "age" (adK 3) s := hc.2.2.2.2.2.2.1 (RX6, 76, "age", 3) (List.mem_of_getElem? (i := 3) rfl)
  have hst4 : vk_R RX6 78 "part" (adK 4) s := hc.2.2.2.2.2.2.1 (RX6, 78, "part", 4) (List.mem_of_getElem? (i := 4) rfl)
  refine lv_aload_n hx hb dX6_readMeasure_0 rfl (lv_at hl 0 rfl) ?_
  refine k_v (wr := []) (j_V ⟨hx, hb, hml, hown, hts⟩ (c_X6_readWord l D cI cZ cB cJ b0 adK adV r0 t0 d0 t1 b L ap wp (by omega) (by omega) hB H.size) (cwV 0 hts gX6_readMeasure_X6_readWord rfl rfl rfl (by decide +kernel) ⟨by decide, by decide⟩) hc hw [0, 1, 2] rfl rfl 6 0 rfl rfl rfl rfl hl.1 rfl (Nat.le_of_ble_eq_true rfl) dX6_readMeasure_1 ⟨by decide, by decide⟩) hc hw [0, 1, 2] [] rfl rfl (by decide) (by decide) (fun  w H locs hq hw => ?_)
  subst hq
  have hw : Wd D A s H locs [(r0, .inr (6, [.ref t0, .ref d0, .int (nI L), .int (nI (wdE b L (skB b L ap))), .int (nI (skB b L ap))])), (t0, .inr (8, [.ref t1, .int (nI L)])), (t1, .inl (cI, 100, .inl (nF b)))] := hw
  refine lv_aload_n hx hb dX6_readMeasure_4 rfl (lv_at hl 0 rfl) ?_
  refine va_ldcS (q := adK 0) hx hb hown hst0 dX6_readMeasure_5 ?_
  refine k_i (wr := []) (j_V ⟨hx, hb, hml, hown, hts⟩ (c_X6_isWord l D cI cZ cB cJ b0 adK adV r0 t0 d0 t1 b L (wdE b L (skB b L ap)) (skB b L ap) 0 (by omega) (wdE_le b (skB_le b ha)) (wdE_ge b L _) (by decide) hB H.size) (cwV 1 hts gX6_readMeasure_X6_isWord rfl rfl rfl (by decide +kernel) ⟨by decide, by decide⟩) hc hw [0, 1, 2] rfl rfl 6 0 rfl rfl rfl rfl hl.1 rfl (Nat.le_of_ble_eq_true rfl) dX6_readMeasure_7 ⟨by decide, by decide⟩) hc hw [0, 1, 2] [] rfl rfl (by decide) (by decide) (fun r w H locs hq hw => ?_)
  obtain ⟨rfl, rfl⟩ := hq
  have hw : Wd D A s H locs [(r0, .inr (6, [.ref t0, .ref d0, .int (nI L), .int (nI ((wdE b L (skB b L ap)))), .int (nI ((skB b L ap)))])), (t0, .inr (8, [.ref t1, .int (nI L)])), (t1, .inl (cI, 100, .inl (nF b)))] := hw
  refine wz_if_eq (tgt := 15) hx hb dX6_readMeasure_10 (by decide) (fun c_1 => ?_) (fun c_1 => ?_)
  · skip
    refine lv_aload_n hx hb dX6_readMeasure_15 rfl (lv_at hl 0 rfl) ?_
    refine va_ldcS (q := adK 1) hx hb hown hst1 dX6_readMeasure_16 ?_
    refine k_i (wr := []) (j_V ⟨hx, hb, hml, hown, hts⟩ (c_X6_isWord l D cI cZ cB cJ b0 adK adV r0 t0 d0 t1 b L (wdE b L (skB b L ap)) (skB b L ap) 1 (by omega) (wdE_le b (skB_le b ha)) (wdE_ge b L _) (by decide) hB H.size) (cwV 1 hts gX6_readMeasure_X6_isWord rfl rfl rfl (by decide +kernel) ⟨by decide, by decide⟩) hc hw [0, 1, 2] rfl rfl 6 0 rfl rfl rfl rfl hl.1 rfl (Nat.le_of_ble_eq_true rfl) dX6_readMeasure_18 ⟨by decide, by decide⟩) hc hw [0, 1, 2] [] rfl rfl (by decide) (by decide) (fun r w H locs hq hw => ?_)
    obtain ⟨rfl, rfl⟩ := hq
    have hw : Wd D A s H locs [(r0, .inr (6, [.ref t0, .ref d0, .int (nI L), .int (nI ((wdE b L (skB b L ap)))), .int (nI ((skB b L ap)))])), (t0, .inr (8, [.ref t1, .int (nI L)])), (t1, .inl (cI, 100, .inl (nF b)))] := hw
    refine wz_if_eq (tgt := 26) hx hb dX6_readMeasure_21 (by decide) (fun c_2 => ?_) (fun c_2 => ?_)
    · skip
      refine lv_aload_n hx hb dX6_readMeasure_26 rfl (lv_at hl 0 rfl) ?_
      refine va_ldcS (q := adK 2) hx hb hown hst2 dX6_readMeasure_27 ?_
      refine k_i (wr := []) (j_V ⟨hx, hb, hml, hown, hts⟩ (c_X6_isWord l D cI cZ cB cJ b0 adK adV r0 t0 d0 t1 b L (wdE b L (skB b L ap)) (skB b L ap) 2 (by omega) (wdE_le b (skB_le b ha)) (wdE_ge b L _) (by decide) hB H.size) (cwV 1 hts gX6_readMeasure_X6_isWord rfl rfl rfl (by decide +kernel) ⟨by decide, by decide⟩) hc hw [0, 1, 2] rfl rfl 6 0 rfl rfl rfl rfl hl.1 rfl (Nat.le_of_ble_eq_true rfl) dX6_readMeasure_29 ⟨by decide, by decide⟩) hc hw [0, 1, 2] [] rfl rfl (by decide) (by decide) (fun r w H locs hq hw => ?_)
      obtain ⟨rfl, rfl⟩ := hq
      have hw : Wd D A s H locs [(r0, .inr (6, [.ref t0, .ref d0, .int (nI L), .int (nI ((wdE b L (skB b L ap)))), .int (nI ((skB b L ap)))])), (t0, .inr (8, [.ref t1, .int (nI L)])), (t1, .inl (cI, 100, .inl (nF b)))] := hw
      refine wz_if_eq (tgt := 37) hx hb dX6_readMeasure_32 (by decide) (fun c_3 => ?_) (fun c_3 => ?_)
      · skip
        refine lv_aload_n hx hb dX6_readMeasure_37 rfl (lv_at hl 0 rfl) ?_
        refine va_ldcS (q := adK 3) hx hb hown hst3 dX6_readMeasure_38 ?_
        refine k_i (wr := []) (j_V ⟨hx, hb, hml, hown, hts⟩ (c_X6_isWord l D cI cZ cB cJ b0 adK adV r0 t0 d0 t1 b L (wdE b L (skB b L ap)) (skB b L ap) 3 (by omega) (wdE_le b (skB_le b ha)) (wdE_ge b L _) (by decide) hB H.size) (cwV 1 hts gX6_readMeasure_X6_isWord rfl rfl rfl (by decide +kernel) ⟨by decide, by decide⟩) hc hw [0, 1, 2] rfl rfl 6 0 rfl rfl rfl rfl hl.1 rfl (Nat.le_of_ble_eq_true rfl) dX6_readMeasure_40 ⟨by decide, by decide⟩) hc hw [0, 1, 2] [] rfl rfl (by decide) (by decide) (fun r w H locs hq hw => ?_)
        obtain ⟨rfl, rfl⟩ := hq
        have hw : Wd D A s H locs [(r0, .inr (6, [.ref t0, .ref d0, .int (nI L), .int (nI ((wdE b L (skB b L ap)))), .int (nI ((skB b L ap)))])), (t0, .inr (8, [.ref t1, .int (nI L)])), (t1, .inl (cI, 100, .inl (nF b)))] := hw
        refine wz_if_eq (tgt := 48) hx hb dX6_readMeasure_43 (by decide) (fun c_4 => ?_) (fun c_4 => ?_)
        · skip
          refine lv_aload_n hx hb dX6_readMeasure_48 rfl (lv_at hl 0 rfl) ?_
          refine va_ldcS (q := adK 4) hx hb hown hst4 dX6_readMeasure_49 ?_
          refine k_i (wr := []) (j_V ⟨hx, hb, hml, hown, hts⟩ (c_X6_isWord l D cI cZ cB cJ b0 adK adV r0 t0 d0 t1 b L (wdE b L (skB b L ap)) (skB b L ap) 4 (by omega) (wdE_le b (skB_le b ha)) (wdE_ge b L _) (by decide) hB H.size) (cwV 1 hts gX6_readMeasure_X6_isWord rfl rfl rfl (by decide +kernel) ⟨by decide, by decide⟩) hc hw [0, 1, 2] rfl rfl 6 0 rfl rfl rfl rfl hl.1 rfl (Nat.le_of_ble_eq_true rfl) dX6_readMeasure_51 ⟨by decide, by decide⟩) hc hw [0, 1, 2] [] rfl rfl (by decide) (by decide) (fun r w H locs hq hw => ?_)
          obtain ⟨rfl, rfl⟩ := hq
          have hw : Wd D A s H locs [(r0, .inr (6, [.ref t0, .ref d0, .int (nI L), .int (nI ((wdE b L (skB b L ap)))), .int (nI ((skB b L ap)))])), (t0, .inr (8, [.ref t1, .int (nI L)])), (t1, .inl (cI, 100, .inl (nF b)))] := hw
          refine wz_if_eq (tgt := 62) hx hb dX6_readMeasure_54 (by decide) (fun c_5 => ?_) (fun c_5 => ?_)
          · skip
            refine lv_aload_n hx hb dX6_readMeasure_62 rfl (lv_at hl 0 rfl) ?_
            refine lv_aload_n hx hb dX6_readMeasure_63 rfl (lv_at hl 0 rfl) ?_
            refine w_get (C := RX6) (T := TX6) (N := 5) (ci := 6) hx hb hts in_6 hown hc hw 0 4 rfl rfl (by decide) lk_0 rfl dX6_readMeasure_64 ?_
            refine w_put (C := RX6) (T := TX6) (N := 5) (ci := 6) (v := .int (nI ((skB b L ap)))) (ws1 := [(r0, .inr (6, [.ref t0, .ref d0, .int (nI L), .int (nI ((skB b L ap))), .int (nI ((skB b L ap)))])), (t0, .inr (8, [.ref t1, .int (nI L)])), (t1, .inl (cI, 100, .inl (nF b)))]) hx hb hts in_6 tyX6 tyX6_ok nmX6 hown hc hw 0 3 rfl rfl (by decide) lk_1 rfl rfl rfl (Nat.le_of_ble_eq_true rfl) rfl dX6_readMeasure_67 (fun H locs hw => ?_)
            refine lv_iconst (v := (-1)) hx hb dX6_readMeasure_70 (by decide) ?_
            exact absurd hrm (by simp [rm, c_1, c_2, c_3, c_4, c_5])
          · skip
            refine lv_aload_n hx hb dX6_readMeasure_57 rfl (lv_at hl 0 rfl) ?_
            have hd9 : skB b L (wdE b L (skB b L ap)) < L ∧ 48 ≤ b (skB b L (wdE b L (skB b L ap))) ∧ b (skB b L (wdE b L (skB b L ap))) < 53 := rm_part hrm (by assumption) (by assumption) (by assumption) (by assumption) (by assumption)
            refine k_i (wr := []) (j_V ⟨hx, hb, hml, hown, hts⟩ (c_X6_readPart l D cI cZ cB cJ b0 adK adV r0 t0 d0 t1 b L (wdE b L (skB b L ap)) (skB b L ap) (by omega) (wdE_le b (skB_le b ha)) hB hd9 H.size) (cwV 0 hts gX6_readMeasure_X6_readPart rfl rfl rfl (by decide +kernel) ⟨by decide, by decide⟩) hc hw [0, 1, 2] rfl rfl 6 0 rfl rfl rfl rfl hl.1 rfl (Nat.le_of_ble_eq_true rfl) dX6_readMeasure_58 ⟨by decide, by decide⟩) hc hw [0, 1, 2] [] rfl rfl (by decide) (by decide) (fun r w H locs hq hw => ?_)
            obtain ⟨rfl, rfl⟩ := hq
            have hw : Wd D A s H locs [(r0, .inr (6, [.ref t0, .ref d0, .int (nI L), .int (nI (skB b L (wdE b L (skB b L ap)) + 1)), .int (nI ((skB b L ap)))])), (t0, .inr (8, [.ref t1, .int (nI L)])), (t1, .inl (cI, 100, .inl (nF b)))] := hw
            simp [rm, hd9, c_1, c_2, c_3, c_4, c_5] at hrm; obtain ⟨rfl, rfl⟩ := hrm
            subst hQ
            exact r_i hx hb hr rfl hlk hw ⟨rfl, rfl⟩ dX6_readMeasure_61
        · skip
          refine lv_iconst (v := nI 3) hx hb dX6_readMeasure_46 (by decide) ?_
          simp [rm, c_1, c_2, c_3, c_4] at hrm; obtain ⟨rfl, rfl⟩ := hrm
          subst hQ
          exact r_i hx hb hr rfl hlk hw ⟨rfl, rfl⟩ dX6_readMeasure_47
      · skip
        refine lv_iconst (v := nI 2) hx hb dX6_readMeasure_35 (by decide) ?_
        simp [rm, c_1, c_2, c_3] at hrm; obtain ⟨rfl, rfl⟩ := hrm
        subst hQ
        exact r_i hx hb hr rfl hlk hw ⟨rfl, rfl⟩ dX6_readMeasure_36
    · skip
      refine lv_iconst (v := nI 1) hx hb dX6_readMeasure_24 (by decide) ?_
      simp [rm, c_1, c_2] at hrm; obtain ⟨rfl, rfl⟩ := hrm
      subst hQ
      exact r_i hx hb hr rfl hlk hw ⟨rfl, rfl⟩ dX6_readMeasure_25
  · skip
    refine lv_iconst (v := nI 0) hx hb dX6_readMeasure_13 (by decide) ?_
    simp [rm, c_1] at hrm; obtain ⟨rfl, rfl⟩ := hrm
    subst hQ
    exact r_i hx hb hr rfl hlk hw ⟨rfl, rfl⟩ dX6_readMeasure_14
def rm_c_X6_readMeasure_no : Room := { frames := 5, cells := 0, slots := 0, locals := 107 }
set_option maxHeartbeats 4000000 in
set_option maxRecDepth 100000 in
theorem c_X6_readMeasure_no (l : Launch) (D : va_G) (cI cZ cB cJ : ClassId) (b0 : Nat) (adK adV : Nat → Nat) (r0 t0 d0 t1 : Nat) (b : Nat → Nat) (L : Nat) (ap : Nat) (wp : Nat) (hL : L ≤ 100) (ha : ap ≤ L) (hB : ∀ k, b k < 256) (hrm : rm b L ap = none) : Mi l yX6_readMeasure wsX6_readMeasure rm_c_X6_readMeasure_no D (TYs cI cZ cB cJ) b0 adK adV [.ref r0] [(r0, .inr (6, [.ref t0, .ref d0, .int (nI L), .int (nI ap), .int (nI wp)])), (t0, .inr (8, [.ref t1, .int (nI L)])), (t1, .inl (cI, 100, .inl (nF b)))] (fun (r : Int32) (w : va_W) => r = (-1) ∧ w = [(r0, .inr (6, [.ref t0, .ref d0, .int (nI L), .int (nI (rmF b L ap)), .int (nI (skB b L ap))])), (t0, .inr (8, [.ref t1, .int (nI L)])), (t1, .inl (cI, 100, .inl (nF b)))]) 0 0 := by
  refine e_M (Qf := fun A => va_Qi (fun (r : Int32) (w : va_W) => r = (-1) ∧ w = [(r0, .inr (6, [.ref t0, .ref d0, .int (nI L), .int (nI (rmF b L ap)), .int (nI (skB b L ap))])), (t0, .inr (8, [.ref t1, .int (nI L)])), (t1, .inl (cI, 100, .inl (nF b)))]) (Bw D A) A) (cc := cX6_readMeasure) (maxL := 1) (ret := (some .int)) (by decide) rfl (Nat.le_of_ble_eq_true rfl) ?_
  intro p e s m args below meth c ls A Q H locs hx hb hr hml hts hown hlk hnm hc hw hl hQ
  have hl : lv_has ls 1 [(0, .ref r0)] := hl
  have in_6 : ∀ w ∈ u_ws RX6 TX6 5, w ∈ wsX6_readMeasure := fun _ h => List.mem_cons_of_mem _ (List.mem_append_left _ (List.mem_append_right _ h))
  have lk_0 := hts (.fieldLink RX6 25 "PloughingMatch$RuleReader" "wordStart" "I") (List.mem_of_getElem? (i := 1) rfl)
  have lk_1 := hts (.fieldLink RX6 22 "PloughingMatch$RuleReader" "at" "I") (List.mem_of_getElem? (i := 2) rfl)
  have hst0 : vk_R RX6 70 "final" (adK 0) s := hc.2.2.2.2.2.2.1 (RX6, 70, "final", 0) (List.mem_of_getElem? (i := 0) rfl)
  have hst1 : vk_R RX6 72 "sum" (adK 1) s := hc.2.2.2.2.2.2.1 (RX6, 72, "sum", 1) (List.mem_of_getElem? (i := 1) rfl)
  have hst2 : vk_R RX6 74 "minutes" (adK 2) s := hc.2.2.2.2.2.2.1 (RX6, 74, "minutes", 2) (List.mem_of_getElem? (i := 2) rfl)
  have hst3 : vk_R RX6 76 "age" (adK 3) s := hc.2.2.2.2.2.2.1 (RX6, 76, "age", 3) (List.mem_of_getElem? (i := 3) rfl)
  have hst4 : vk_R RX6 78 "part" (adK 4) s := hc.2.2.2.2.2.2.1 (RX6, 78, "part", 4) (List.mem_of_getElem? (i := 4) rfl)
  refine lv_aload_n hx hb dX6_readMeasure_0 rfl (lv_at hl 0 rfl) ?_
  refine k_v (wr := []) (j_V ⟨hx, hb, hml, hown, hts⟩ (c_X6_readWord l D cI cZ cB cJ b0 adK adV r0 t0 d0 t1 b L ap wp (by omega) (by omega) hB H.size) (cwV 0 hts gX6_readMeasure_X6_readWord rfl rfl rfl (by decide +kernel) ⟨by decide, by decide⟩) hc hw [0, 1, 2] rfl rfl 6 0 rfl rfl rfl rfl hl.1 rfl (Nat.le_of_ble_eq_true rfl) dX6_readMeasure_1 ⟨by decide, by decide⟩) hc hw [0, 1, 2] [] rfl rfl (by decide) (by decide) (fun  w H locs hq hw => ?_)
  subst hq
  have hw : Wd D A s H locs [(r0, .inr (6, [.ref t0, .ref d0, .int (nI L), .int (nI (wdE b L (skB b L ap))), .int (nI (skB b L ap))])), (t0, .inr (8, [.ref t1, .int (nI L)])), (t1, .inl (cI, 100, .inl (nF b)))] := hw
  refine lv_aload_n hx hb dX6_readMeasure_4 rfl (lv_at hl 0 rfl) ?_
  refine va_ldcS (q := adK 0) hx hb hown hst0 dX6_readMeasure_5 ?_
  refine k_i (wr := []) (j_V ⟨hx, hb, hml, hown, hts⟩ (c_X6_isWord l D cI cZ cB cJ b0 adK adV r0 t0 d0 t1 b L (wdE b L (skB b L ap)) (skB b L ap) 0 (by omega) (wdE_le b (skB_le b ha)) (wdE_ge b L _) (by decide) hB H.size) (cwV 1 hts gX6_readMeasure_X6_isWord rfl rfl rfl (by decide +kernel) ⟨by decide, by decide⟩) hc hw [0, 1, 2] rfl rfl 6 0 rfl rfl rfl rfl hl.1 rfl (Nat.le_of_ble_eq_true rfl) dX6_readMeasure_7 ⟨by decide, by decide⟩) hc hw [0, 1, 2] [] rfl rfl (by decide) (by decide) (fun r w H locs hq hw => ?_)
  obtain ⟨rfl, rfl⟩ := hq
  have hw : Wd D A s H locs [(r0, .inr (6, [.ref t0, .ref d0, .int (nI L), .int (nI ((wdE b L (skB b L ap)))), .int (nI ((skB b L ap)))])), (t0, .inr (8, [.ref t1, .int (nI L)])), (t1, .inl (cI, 100, .inl (nF b)))] := hw
  refine wz_if_eq (tgt := 15) hx hb dX6_readMeasure_10 (by decide) (fun c_1 => ?_) (fun c_1 => ?_)
  · skip
    refine lv_aload_n hx hb dX6_readMeasure_15 rfl (lv_at hl 0 rfl) ?_
    refine va_ldcS (q := adK 1) hx hb hown hst1 dX6_readMeasure_16 ?_
    refine k_i (wr := []) (j_V ⟨hx, hb, hml, hown, hts⟩ (c_X6_isWord l D cI cZ cB cJ b0 adK adV r0 t0 d0 t1 b L (wdE b L (skB b L ap)) (skB b L ap) 1 (by omega) (wdE_le b (skB_le b ha)) (wdE_ge b L _) (by decide) hB H.size) (cwV 1 hts gX6_readMeasure_X6_isWord rfl rfl rfl (by decide +kernel) ⟨by decide, by decide⟩) hc hw [0, 1, 2] rfl rfl 6 0 rfl rfl rfl rfl hl.1 rfl (Nat.le_of_ble_eq_true rfl) dX6_readMeasure_18 ⟨by decide, by decide⟩) hc hw [0, 1, 2] [] rfl rfl (by decide) (by decide) (fun r w H locs hq hw => ?_)
    obtain ⟨rfl, rfl⟩ := hq
    have hw : Wd D A s H locs [(r0, .inr (6, [.ref t0, .ref d0, .int (nI L), .int (nI ((wdE b L (skB b L ap)))), .int (nI ((skB b L ap)))])), (t0, .inr (8, [.ref t1, .int (nI L)])), (t1, .inl (cI, 100, .inl (nF b)))] := hw
    refine wz_if_eq (tgt := 26) hx hb dX6_readMeasure_21 (by decide) (fun c_2 => ?_) (fun c_2 => ?_)
    · skip
      refine lv_aload_n hx hb dX6_readMeasure_26 rfl (lv_at hl 0 rfl) ?_
      refine va_ldcS (q := adK 2) hx hb hown hst2 dX6_readMeasure_27 ?_
      refine k_i (wr := []) (j_V ⟨hx, hb, hml, hown, hts⟩ (c_X6_isWord l D cI cZ cB cJ b0 adK adV r0 t0 d0 t1 b L (wdE b L (skB b L ap)) (skB b L ap) 2 (by omega) (wdE_le b (skB_le b ha)) (wdE_ge b L _) (by decide) hB H.size) (cwV 1 hts gX6_readMeasure_X6_isWord rfl rfl rfl (by decide +kernel) ⟨by decide, by decide⟩) hc hw [0, 1, 2] rfl rfl 6 0 rfl rfl rfl rfl hl.1 rfl (Nat.le_of_ble_eq_true rfl) dX6_readMeasure_29 ⟨by decide, by decide⟩) hc hw [0, 1, 2] [] rfl rfl (by decide) (by decide) (fun r w H locs hq hw => ?_)
      obtain ⟨rfl, rfl⟩ := hq
      have hw : Wd D A s H locs [(r0, .inr (6, [.ref t0, .ref d0, .int (nI L), .int (nI ((wdE b L (skB b L ap)))), .int (nI ((skB b L ap)))])), (t0, .inr (8, [.ref t1, .int (nI L)])), (t1, .inl (cI, 100, .inl (nF b)))] := hw
      refine wz_if_eq (tgt := 37) hx hb dX6_readMeasure_32 (by decide) (fun c_3 => ?_) (fun c_3 => ?_)
      · skip
        refine lv_aload_n hx hb dX6_readMeasure_37 rfl (lv_at hl 0 rfl) ?_
        refine va_ldcS (q := adK 3) hx hb hown hst3 dX6_readMeasure_38 ?_
        refine k_i (wr := []) (j_V ⟨hx, hb, hml, hown, hts⟩ (c_X6_isWord l D cI cZ cB cJ b0 adK adV r0 t0 d0 t1 b L (wdE b L (skB b L ap)) (skB b L ap) 3 (by omega) (wdE_le b (skB_le b ha)) (wdE_ge b L _) (by decide) hB H.size) (cwV 1 hts gX6_readMeasure_X6_isWord rfl rfl rfl (by decide +kernel) ⟨by decide, by decide⟩) hc hw [0, 1, 2] rfl rfl 6 0 rfl rfl rfl rfl hl.1 rfl (Nat.le_of_ble_eq_true rfl) dX6_readMeasure_40 ⟨by decide, by decide⟩) hc hw [0, 1, 2] [] rfl rfl (by decide) (by decide) (fun r w H locs hq hw => ?_)
        obtain ⟨rfl, rfl⟩ := hq
        have hw : Wd D A s H locs [(r0, .inr (6, [.ref t0, .ref d0, .int (nI L), .int (nI ((wdE b L (skB b L ap)))), .int (nI ((skB b L ap)))])), (t0, .inr (8, [.ref t1, .int (nI L)])), (t1, .inl (cI, 100, .inl (nF b)))] := hw
        refine wz_if_eq (tgt := 48) hx hb dX6_readMeasure_43 (by decide) (fun c_4 => ?_) (fun c_4 => ?_)
        · skip
          refine lv_aload_n hx hb dX6_readMeasure_48 rfl (lv_at hl 0 rfl) ?_
          refine va_ldcS (q := adK 4) hx hb hown hst4 dX6_readMeasure_49 ?_
          refine k_i (wr := []) (j_V ⟨hx, hb, hml, hown, hts⟩ (c_X6_isWord l D cI cZ cB cJ b0 adK adV r0 t0 d0 t1 b L (wdE b L (skB b L ap)) (skB b L ap) 4 (by omega) (wdE_le b (skB_le b ha)) (wdE_ge b L _) (by decide) hB H.size) (cwV 1 hts gX6_readMeasure_X6_isWord rfl rfl rfl (by decide +kernel) ⟨by decide, by decide⟩) hc hw [0, 1, 2] rfl rfl 6 0 rfl rfl rfl rfl hl.1 rfl (Nat.le_of_ble_eq_true rfl) dX6_readMeasure_51 ⟨by decide, by decide⟩) hc hw [0, 1, 2] [] rfl rfl (by decide) (by decide) (fun r w H locs hq hw => ?_)
          obtain ⟨rfl, rfl⟩ := hq
          have hw : Wd D A s H locs [(r0, .inr (6, [.ref t0, .ref d0, .int (nI L), .int (nI ((wdE b L (skB b L ap)))), .int (nI ((skB b L ap)))])), (t0, .inr (8, [.ref t1, .int (nI L)])), (t1, .inl (cI, 100, .inl (nF b)))] := hw
          refine wz_if_eq (tgt := 62) hx hb dX6_readMeasure_54 (by decide) (fun c_5 => ?_) (fun c_5 => ?_)
          · skip
            refine lv_aload_n hx hb dX6_readMeasure_62 rfl (lv_at hl 0 rfl) ?_
            refine lv_aload_n hx hb dX6_readMeasure_63 rfl (lv_at hl 0 rfl) ?_
            refine w_get (C := RX6) (T := TX6) (N := 5) (ci := 6) hx hb hts in_6 hown hc hw 0 4 rfl rfl (by decide) lk_0 rfl dX6_readMeasure_64 ?_
            refine w_put (C := RX6) (T := TX6) (N := 5) (ci := 6) (v := .int (nI ((skB b L ap)))) (ws1 := [(r0, .inr (6, [.ref t0, .ref d0, .int (nI L), .int (nI ((skB b L ap))), .int (nI ((skB b L ap)))])), (t0, .inr (8, [.ref t1, .int (nI L)])), (t1, .inl (cI, 100, .inl (nF b)))]) hx hb hts in_6 tyX6 tyX6_ok nmX6 hown hc hw 0 3 rfl rfl (by decide) lk_1 rfl rfl rfl (Nat.le_of_ble_eq_true rfl) rfl dX6_readMeasure_67 (fun H locs hw => ?_)
            refine lv_iconst (v := (-1)) hx hb dX6_readMeasure_70 (by decide) ?_
            subst hQ
            exact r_i hx hb hr rfl hlk hw ⟨rfl, (by simp [rmF, c_1, c_2, c_3, c_4, c_5])⟩ dX6_readMeasure_71
          · skip
            refine lv_aload_n hx hb dX6_readMeasure_57 rfl (lv_at hl 0 rfl) ?_
            have hd9 : ¬ (skB b L (wdE b L (skB b L ap)) < L ∧ 48 ≤ b (skB b L (wdE b L (skB b L ap))) ∧ b (skB b L (wdE b L (skB b L ap))) < 53) := rm_part_no hrm (by assumption) (by assumption) (by assumption) (by assumption) (by assumption)
            refine k_i (wr := []) (j_V ⟨hx, hb, hml, hown, hts⟩ (c_X6_readPart_no l D cI cZ cB cJ b0 adK adV r0 t0 d0 t1 b L (wdE b L (skB b L ap)) (skB b L ap) (by omega) (wdE_le b (skB_le b ha)) hB hd9 H.size) (cwV 0 hts gX6_readMeasure_X6_readPart rfl rfl rfl (by decide +kernel) ⟨by decide, by decide⟩) hc hw [0, 1, 2] rfl rfl 6 0 rfl rfl rfl rfl hl.1 rfl (Nat.le_of_ble_eq_true rfl) dX6_readMeasure_58 ⟨by decide, by decide⟩) hc hw [0, 1, 2] [] rfl rfl (by decide) (by decide) (fun r w H locs hq hw => ?_)
            obtain ⟨rfl, rfl⟩ := hq
            have hw : Wd D A s H locs [(r0, .inr (6, [.ref t0, .ref d0, .int (nI L), .int (nI (skB b L (wdE b L (skB b L ap)))), .int (nI ((skB b L ap)))])), (t0, .inr (8, [.ref t1, .int (nI L)])), (t1, .inl (cI, 100, .inl (nF b)))] := hw
            subst hQ
            exact r_i hx hb hr rfl hlk hw ⟨rfl, (by simp [rmF, c_1, c_2, c_3, c_4, c_5])⟩ dX6_readMeasure_61
        · skip
          refine lv_iconst (v := nI 3) hx hb dX6_readMeasure_46 (by decide) ?_
          exact absurd hrm (by simp [rm, c_1, c_2, c_3, c_4])
      · skip
        refine lv_iconst (v := nI 2) hx hb dX6_readMeasure_35 (by decide) ?_
        exact absurd hrm (by simp [rm, c_1, c_2, c_3])
    · skip
      refine lv_iconst (v := nI 1) hx hb dX6_readMeasure_24 (by decide) ?_
      exact absurd hrm (by simp [rm, c_1, c_2])
  · skip
    refine lv_iconst (v := nI 0) hx hb dX6_readMeasure_13 (by decide) ?_
    exact absurd hrm (by simp [rm, c_1])
def rm_c_X6_readKey : Room := { frames := 6, cells := 0, slots := 0, locals := 127 }
set_option maxHeartbeats 4000000 in
set_option maxRecDepth 100000 in
theorem c_X6_readKey (l : Launch) (D : va_G) (cI cZ cB cJ : ClassId) (b0 : Nat) (adK adV : Nat → Nat) (r0 t0 d0 t1 d1 d2 : Nat) (b : Nat → Nat) (L : Nat) (ap : Nat) (wp : Nat) (ms : Nat → Nat) (up : Nat → Bool) (n : Nat) (mz : Nat) (u : Bool) (a1 : Nat) (hL : L ≤ 100) (ha : ap ≤ L) (hB : ∀ k, b k < 256) (hn : n < 6) (hk : prK b L ap = some ((mz, u), a1)) : Mi l yX6_readKey wsX6_readKey rm_c_X6_readKey D (TYs cI cZ cB cJ) b0 adK adV [.ref r0] [(r0, .inr (6, [.ref t0, .ref d0, .int (nI L), .int (nI ap), .int (nI wp)])), (t0, .inr (8, [.ref t1, .int (nI L)])), (t1, .inl (cI, 100, .inl (nF b))), (d0, .inr (2, [.ref d1, .ref d2, .int (nI n)])), (d1, .inl (cI, 6, .inl (nF ms))), (d2, .inl (cZ, 6, .inl (zF up)))] (fun (r : Int32) (w : va_W) => ∃ (w1 : Nat), r = zI true ∧ w = [(r0, .inr (6, [.ref t0, .ref d0, .int (nI L), .int (nI a1), .int (nI w1)])), (t0, .inr (8, [.ref t1, .int (nI L)])), (t1, .inl (cI, 100, .inl (nF b))), (d0, .inr (2, [.ref d1, .ref d2, .int (nI (n + 1))])), (d1, .inl (cI, 6, .inl (nF (va_up ms n mz)))), (d2, .inl (cZ, 6, .inl (zF (va_up up n u))))]) 0 0 := by
  refine e_M (Qf := fun A => va_Qi (fun (r : Int32) (w : va_W) => ∃ (w1 : Nat), r = zI true ∧ w = [(r0, .inr (6, [.ref t0, .ref d0, .int (nI L), .int (nI a1), .int (nI w1)])), (t0, .inr (8, [.ref t1, .int (nI L)])), (t1, .inl (cI, 100, .inl (nF b))), (d0, .inr (2, [.ref d1, .ref d2, .int (nI (n + 1))])), (d1, .inl (cI, 6, .inl (nF (va_up ms n mz)))), (d2, .inl (cZ, 6, .inl (zF (va_up up n u))))]) (Bw D A) A) (cc := cX6_readKey) (maxL := 3) (ret := (some .boolean)) (by decide) rfl (Nat.le_of_ble_eq_true rfl) ?_
  intro p e s m args below meth c ls A Q H locs hx hb hr hml hts hown hlk hnm hc hw hl hQ
  have hl : lv_has ls 3 [(0, .ref r0)] := hl
  have in_6 : ∀ w ∈ u_ws RX6 TX6 5, w ∈ wsX6_readKey := fun _ h => List.mem_cons_of_mem _ (List.mem_append_left _ (List.mem_append_left _ (List.mem_append_right _ h)))
  have lk_0 := hts (.fieldLink RX6 12 "PloughingMatch$RuleReader" "draft" "LPloughingMatch$Keys;") (List.mem_of_getElem? (i := 3) rfl)
  have hst5 : vk_R RX6 58 "up" (adK 5) s := hc.2.2.2.2.2.2.1 (RX6, 58, "up", 5) (List.mem_of_getElem? (i := 5) rfl)
  have hst6 : vk_R RX6 64 "down" (adK 6) s := hc.2.2.2.2.2.2.1 (RX6, 64, "down", 6) (List.mem_of_getElem? (i := 6) rfl)
  obtain ⟨a2, hrm, he, hu⟩ := prK_inv hk
  have ha2 : a2 ≤ L := (rm_le ha hrm).2.1
  have hm8 : mz ≤ 8 := (rm_le ha hrm).2.2
  have hu5 : u = isW b (skB b L a2) (wdE b L (skB b L a2)) 5 := (by rcases hu with ⟨h1, h2⟩ | ⟨h1, -, h2⟩ <;> exact h2.trans h1.symm)
  refine lv_aload_n hx hb dX6_readKey_0 rfl (lv_at hl 0 rfl) ?_
  refine k_i (wr := [(d0, .inr (2, [.ref d1, .ref d2, .int (nI n)])), (d1, .inl (cI, 6, .inl (nF ms))), (d2, .inl (cZ, 6, .inl (zF up)))]) (j_V ⟨hx, hb, hml, hown, hts⟩ (c_X6_readMeasure l D cI cZ cB cJ b0 adK adV r0 t0 d0 t1 b L ap wp mz a2 (by omega) (by omega) hB hrm H.size) (cwV 0 hts gX6_readKey_X6_readMeasure rfl rfl rfl (by decide +kernel) ⟨by decide, by decide⟩) hc hw [0, 1, 2] rfl rfl 6 0 rfl rfl rfl rfl hl.1 rfl (Nat.le_of_ble_eq_true rfl) dX6_readKey_1 ⟨by decide, by decide⟩) hc hw [0, 1, 2] [3, 4, 5] rfl rfl (by decide) (by decide) (fun r w H locs hq hw => ?_)
  obtain ⟨rfl, rfl⟩ := hq
  have hw : Wd D A s H locs [(r0, .inr (6, [.ref t0, .ref d0, .int (nI L), .int (nI a2), .int (nI (skB b L ap))])), (t0, .inr (8, [.ref t1, .int (nI L)])), (t1, .inl (cI, 100, .inl (nF b))), (d0, .inr (2, [.ref d1, .ref d2, .int (nI n)])), (d1, .inl (cI, 6, .inl (nF ms))), (d2, .inl (cZ, 6, .inl (zF up)))] := hw.sub [3, 4, 5, 0, 1, 2] (by decide) rfl
  refine lv_istore_n (lv' := [(1, .int (nI mz)), (0, .ref r0)]) hx hb dX6_readKey_4 rfl hl (by decide) rfl (fun ls hl => ?_)
  refine lv_iload_n hx hb dX6_readKey_5 rfl (lv_at hl 0 rfl) ?_
  refine lv_iconst (v := (-1)) hx hb dX6_readKey_6 (by decide) ?_
  refine lv_icmp_ne (tgt := 12) hx hb dX6_readKey_7 (by decide) (fun c_1 => ?_) (fun c_1 => ?_)
  · skip
    refine lv_aload_n hx hb dX6_readKey_12 rfl (lv_at hl 1 rfl) ?_
    refine k_v (wr := [(d0, .inr (2, [.ref d1, .ref d2, .int (nI n)])), (d1, .inl (cI, 6, .inl (nF ms))), (d2, .inl (cZ, 6, .inl (zF up)))]) (j_V ⟨hx, hb, hml, hown, hts⟩ (c_X6_readWord l D cI cZ cB cJ b0 adK adV r0 t0 d0 t1 b L a2 (skB b L ap) (by omega) ha2 hB H.size) (cwV 0 hts gX6_readKey_X6_readWord rfl rfl rfl (by decide +kernel) ⟨by decide, by decide⟩) hc hw [0, 1, 2] rfl rfl 6 0 rfl rfl rfl rfl hl.1 rfl (Nat.le_of_ble_eq_true rfl) dX6_readKey_13 ⟨by decide, by decide⟩) hc hw [0, 1, 2] [3, 4, 5] rfl rfl (by decide) (by decide) (fun  w H locs hq hw => ?_)
    subst hq
    have hw : Wd D A s H locs [(r0, .inr (6, [.ref t0, .ref d0, .int (nI L), .int (nI (wdE b L (skB b L a2))), .int (nI (skB b L a2))])), (t0, .inr (8, [.ref t1, .int (nI L)])), (t1, .inl (cI, 100, .inl (nF b))), (d0, .inr (2, [.ref d1, .ref d2, .int (nI n)])), (d1, .inl (cI, 6, .inl (nF ms))), (d2, .inl (cZ, 6, .inl (zF up)))] := hw.sub [3, 4, 5, 0, 1, 2] (by decide) rfl
    refine lv_aload_n hx hb dX6_readKey_16 rfl (lv_at hl 1 rfl) ?_
    refine va_ldcS (q := adK 5) hx hb hown hst5 dX6_readKey_17 ?_
    refine k_i (wr := [(d0, .inr (2, [.ref d1, .ref d2, .int (nI n)])), (d1, .inl (cI, 6, .inl (nF ms))), (d2, .inl (cZ, 6, .inl (zF up)))]) (j_V ⟨hx, hb, hml, hown, hts⟩ (c_X6_isWord l D cI cZ cB cJ b0 adK adV r0 t0 d0 t1 b L (wdE b L (skB b L a2)) (skB b L a2) 5 (by omega) (wdE_le b (skB_le b ha2)) (wdE_ge b L _) (by decide) hB H.size) (cwV 1 hts gX6_readKey_X6_isWord rfl rfl rfl (by decide +kernel) ⟨by decide, by decide⟩) hc hw [0, 1, 2] rfl rfl 6 0 rfl rfl rfl rfl hl.1 rfl (Nat.le_of_ble_eq_true rfl) dX6_readKey_19 ⟨by decide, by decide⟩) hc hw [0, 1, 2] [3, 4, 5] rfl rfl (by decide) (by decide) (fun r w H locs hq hw => ?_)
    obtain ⟨rfl, rfl⟩ := hq
    have hw : Wd D A s H locs [(r0, .inr (6, [.ref t0, .ref d0, .int (nI L), .int (nI ((wdE b L (skB b L a2)))), .int (nI ((skB b L a2)))])), (t0, .inr (8, [.ref t1, .int (nI L)])), (t1, .inl (cI, 100, .inl (nF b))), (d0, .inr (2, [.ref d1, .ref d2, .int (nI n)])), (d1, .inl (cI, 6, .inl (nF ms))), (d2, .inl (cZ, 6, .inl (zF up)))] := hw.sub [3, 4, 5, 0, 1, 2] (by decide) rfl
    refine lv_istore_n (lv' := [(2, .int (zI (isW b (skB b L a2) (wdE b L (skB b L a2)) 5))), (1, .int (nI mz)), (0, .ref r0)]) hx hb dX6_readKey_22 rfl hl (by decide) rfl (fun ls hl => ?_)
    refine lv_iload_n hx hb dX6_readKey_23 rfl (lv_at hl 0 rfl) ?_
    refine wz_if_ne (tgt := 46) hx hb dX6_readKey_24 (by decide) (fun c_2 => ?_) (fun c_2 => ?_)
    · skip
      refine lv_aload_n hx hb dX6_readKey_46 rfl (lv_at hl 2 rfl) ?_
      refine w_get (C := RX6) (T := TX6) (N := 5) (ci := 6) hx hb hts in_6 hown hc hw 0 1 rfl rfl (by decide) lk_0 rfl dX6_readKey_47 ?_
      refine lv_iload_n hx hb dX6_readKey_50 rfl (lv_at hl 1 rfl) ?_
      refine lv_iload_n hx hb dX6_readKey_51 rfl (lv_at hl 0 rfl) ?_
      refine k_v (wr := [(r0, .inr (6, [.ref t0, .ref d0, .int (nI L), .int (nI ((wdE b L (skB b L a2)))), .int (nI ((skB b L a2)))])), (t0, .inr (8, [.ref t1, .int (nI L)])), (t1, .inl (cI, 100, .inl (nF b)))]) (j_V ⟨hx, hb, hml, hown, hts⟩ (c_X2_append l D cI cZ cB cJ b0 adK adV d0 d1 d2 ms up n mz (isW b (skB b L a2) (wdE b L (skB b L a2)) 5) (by omega) H.size) (cwV 2 hts gX6_readKey_X2_append rfl rfl rfl (by decide +kernel) ⟨by decide, by decide⟩) hc hw [3, 4, 5] rfl rfl 2 3 rfl rfl rfl rfl hl.1 rfl (Nat.le_of_ble_eq_true rfl) dX6_readKey_52 ⟨by decide, by decide⟩) hc hw [3, 4, 5] [0, 1, 2] rfl rfl (by decide) (by decide) (fun  w H locs hq hw => ?_)
      subst hq
      have hw : Wd D A s H locs [(r0, .inr (6, [.ref t0, .ref d0, .int (nI L), .int (nI ((wdE b L (skB b L a2)))), .int (nI ((skB b L a2)))])), (t0, .inr (8, [.ref t1, .int (nI L)])), (t1, .inl (cI, 100, .inl (nF b))), (d0, .inr (2, [.ref d1, .ref d2, .int (nI (n + 1))])), (d1, .inl (cI, 6, .inl (nF (va_up ms n mz)))), (d2, .inl (cZ, 6, .inl (zF (va_up up n (isW b (skB b L a2) (wdE b L (skB b L a2)) 5)))))] := hw
      refine lv_iconst (v := nI 1) hx hb dX6_readKey_55 (by decide) ?_
      subst hQ
      exact r_i hx hb hr rfl hlk hw ⟨(skB b L a2), rfl, (by rw [he, hu5])⟩ dX6_readKey_56
    · skip
      refine lv_aload_n hx hb dX6_readKey_27 rfl (lv_at hl 2 rfl) ?_
      refine va_ldcS (q := adK 6) hx hb hown hst6 dX6_readKey_28 ?_
      refine k_i (wr := [(d0, .inr (2, [.ref d1, .ref d2, .int (nI n)])), (d1, .inl (cI, 6, .inl (nF ms))), (d2, .inl (cZ, 6, .inl (zF up)))]) (j_V ⟨hx, hb, hml, hown, hts⟩ (c_X6_isWord l D cI cZ cB cJ b0 adK adV r0 t0 d0 t1 b L (wdE b L (skB b L a2)) (skB b L a2) 6 (by omega) (wdE_le b (skB_le b ha2)) (wdE_ge b L _) (by decide) hB H.size) (cwV 1 hts gX6_readKey_X6_isWord rfl rfl rfl (by decide +kernel) ⟨by decide, by decide⟩) hc hw [0, 1, 2] rfl rfl 6 0 rfl rfl rfl rfl hl.1 rfl (Nat.le_of_ble_eq_true rfl) dX6_readKey_30 ⟨by decide, by decide⟩) hc hw [0, 1, 2] [3, 4, 5] rfl rfl (by decide) (by decide) (fun r w H locs hq hw => ?_)
      obtain ⟨rfl, rfl⟩ := hq
      have hw : Wd D A s H locs [(r0, .inr (6, [.ref t0, .ref d0, .int (nI L), .int (nI ((wdE b L (skB b L a2)))), .int (nI ((skB b L a2)))])), (t0, .inr (8, [.ref t1, .int (nI L)])), (t1, .inl (cI, 100, .inl (nF b))), (d0, .inr (2, [.ref d1, .ref d2, .int (nI n)])), (d1, .inl (cI, 6, .inl (nF ms))), (d2, .inl (cZ, 6, .inl (zF up)))] := hw.sub [3, 4, 5, 0, 1, 2] (by decide) rfl
      refine wz_if_ne (tgt := 46) hx hb dX6_readKey_33 (by decide) (fun c_3 => ?_) (fun c_3 => ?_)
      · skip
        refine lv_aload_n hx hb dX6_readKey_46 rfl (lv_at hl 2 rfl) ?_
        refine w_get (C := RX6) (T := TX6) (N := 5) (ci := 6) hx hb hts in_6 hown hc hw 0 1 rfl rfl (by decide) lk_0 rfl dX6_readKey_47 ?_
        refine lv_iload_n hx hb dX6_readKey_50 rfl (lv_at hl 1 rfl) ?_
        refine lv_iload_n hx hb dX6_readKey_51 rfl (lv_at hl 0 rfl) ?_
        refine k_v (wr := [(r0, .inr (6, [.ref t0, .ref d0, .int (nI L), .int (nI ((wdE b L (skB b L a2)))), .int (nI ((skB b L a2)))])), (t0, .inr (8, [.ref t1, .int (nI L)])), (t1, .inl (cI, 100, .inl (nF b)))]) (j_V ⟨hx, hb, hml, hown, hts⟩ (c_X2_append l D cI cZ cB cJ b0 adK adV d0 d1 d2 ms up n mz (isW b (skB b L a2) (wdE b L (skB b L a2)) 5) (by omega) H.size) (cwV 2 hts gX6_readKey_X2_append rfl rfl rfl (by decide +kernel) ⟨by decide, by decide⟩) hc hw [3, 4, 5] rfl rfl 2 3 rfl rfl rfl rfl hl.1 rfl (Nat.le_of_ble_eq_true rfl) dX6_readKey_52 ⟨by decide, by decide⟩) hc hw [3, 4, 5] [0, 1, 2] rfl rfl (by decide) (by decide) (fun  w H locs hq hw => ?_)
        subst hq
        have hw : Wd D A s H locs [(r0, .inr (6, [.ref t0, .ref d0, .int (nI L), .int (nI ((wdE b L (skB b L a2)))), .int (nI ((skB b L a2)))])), (t0, .inr (8, [.ref t1, .int (nI L)])), (t1, .inl (cI, 100, .inl (nF b))), (d0, .inr (2, [.ref d1, .ref d2, .int (nI (n + 1))])), (d1, .inl (cI, 6, .inl (nF (va_up ms n mz)))), (d2, .inl (cZ, 6, .inl (zF (va_up up n (isW b (skB b L a2) (wdE b L (skB b L a2)) 5)))))] := hw
        refine lv_iconst (v := nI 1) hx hb dX6_readKey_55 (by decide) ?_
        subst hQ
        exact r_i hx hb hr rfl hlk hw ⟨(skB b L a2), rfl, (by rw [he, hu5])⟩ dX6_readKey_56
      · exact (by rcases hu with ⟨h1, -⟩ | ⟨-, h1, -⟩; exact absurd (h1.symm.trans c_2) (by decide); exact absurd (h1.symm.trans c_3) (by decide))
  · exact (by exact absurd c_1 (nI_neg1 (by omega)))
def rm_c_X6_readKey_no : Room := { frames := 6, cells := 0, slots := 0, locals := 127 }
set_option maxHeartbeats 4000000 in
set_option maxRecDepth 100000 in
theorem c_X6_readKey_no (l : Launch) (D : va_G) (cI cZ cB cJ : ClassId) (b0 : Nat) (adK adV : Nat → Nat) (r0 t0 d0 t1 d1 d2 : Nat) (b : Nat → Nat) (L : Nat) (ap : Nat) (wp : Nat) (ms : Nat → Nat) (up : Nat → Bool) (n : Nat) (hL : L ≤ 100) (ha : ap ≤ L) (hB : ∀ k, b k < 256) (hn : n < 6) (hk : prK b L ap = none) : Mi l yX6_readKey wsX6_readKey rm_c_X6_readKey_no D (TYs cI cZ cB cJ) b0 adK adV [.ref r0] [(r0, .inr (6, [.ref t0, .ref d0, .int (nI L), .int (nI ap), .int (nI wp)])), (t0, .inr (8, [.ref t1, .int (nI L)])), (t1, .inl (cI, 100, .inl (nF b))), (d0, .inr (2, [.ref d1, .ref d2, .int (nI n)])), (d1, .inl (cI, 6, .inl (nF ms))), (d2, .inl (cZ, 6, .inl (zF up)))] (fun (r : Int32) (w : va_W) => ∃ (w1 : Nat), r = zI false ∧ w = [(r0, .inr (6, [.ref t0, .ref d0, .int (nI L), .int (nI (prF b L ap)), .int (nI w1)])), (t0, .inr (8, [.ref t1, .int (nI L)])), (t1, .inl (cI, 100, .inl (nF b))), (d0, .inr (2, [.ref d1, .ref d2, .int (nI n)])), (d1, .inl (cI, 6, .inl (nF ms))), (d2, .inl (cZ, 6, .inl (zF up)))]) 0 0 := by
  refine e_M (Qf := fun A => va_Qi (fun (r : Int32) (w : va_W) => ∃ (w1 : Nat), r = zI false ∧ w = [(r0, .inr (6, [.ref t0, .ref d0, .int (nI L), .int (nI (prF b L ap)), .int (nI w1)])), (t0, .inr (8, [.ref t1, .int (nI L)])), (t1, .inl (cI, 100, .inl (nF b))), (d0, .inr (2, [.ref d1, .ref d2, .int (nI n)])), (d1, .inl (cI, 6, .inl (nF ms))), (d2, .inl (cZ, 6, .inl (zF up)))]) (Bw D A) A) (cc := cX6_readKey) (maxL := 3) (ret := (some .boolean)) (by decide) rfl (Nat.le_of_ble_eq_true rfl) ?_
  intro p e s m args below meth c ls A Q H locs hx hb hr hml hts hown hlk hnm hc hw hl hQ
  have hl : lv_has ls 3 [(0, .ref r0)] := hl
  have in_6 : ∀ w ∈ u_ws RX6 TX6 5, w ∈ wsX6_readKey := fun _ h => List.mem_cons_of_mem _ (List.mem_append_left _ (List.mem_append_left _ (List.mem_append_right _ h)))
  have lk_0 := hts (.fieldLink RX6 25 "PloughingMatch$RuleReader" "wordStart" "I") (List.mem_of_getElem? (i := 1) rfl)
  have lk_1 := hts (.fieldLink RX6 22 "PloughingMatch$RuleReader" "at" "I") (List.mem_of_getElem? (i := 2) rfl)
  have hst5 : vk_R RX6 58 "up" (adK 5) s := hc.2.2.2.2.2.2.1 (RX6, 58, "up", 5) (List.mem_of_getElem? (i := 5) rfl)
  have hst6 : vk_R RX6 64 "down" (adK 6) s := hc.2.2.2.2.2.2.1 (RX6, 64, "down", 6) (List.mem_of_getElem? (i := 6) rfl)
  refine lv_aload_n hx hb dX6_readKey_0 rfl (lv_at hl 0 rfl) ?_
  by_cases hrm : rm b L ap = none
  · skip
    refine k_i (wr := [(d0, .inr (2, [.ref d1, .ref d2, .int (nI n)])), (d1, .inl (cI, 6, .inl (nF ms))), (d2, .inl (cZ, 6, .inl (zF up)))]) (j_V ⟨hx, hb, hml, hown, hts⟩ (c_X6_readMeasure_no l D cI cZ cB cJ b0 adK adV r0 t0 d0 t1 b L ap wp (by omega) (by omega) hB hrm H.size) (cwV 0 hts gX6_readKey_X6_readMeasure rfl rfl rfl (by decide +kernel) ⟨by decide, by decide⟩) hc hw [0, 1, 2] rfl rfl 6 0 rfl rfl rfl rfl hl.1 rfl (Nat.le_of_ble_eq_true rfl) dX6_readKey_1 ⟨by decide, by decide⟩) hc hw [0, 1, 2] [3, 4, 5] rfl rfl (by decide) (by decide) (fun r w H locs hq hw => ?_)
    obtain ⟨rfl, rfl⟩ := hq
    have hw : Wd D A s H locs [(r0, .inr (6, [.ref t0, .ref d0, .int (nI L), .int (nI (rmF b L ap)), .int (nI (skB b L ap))])), (t0, .inr (8, [.ref t1, .int (nI L)])), (t1, .inl (cI, 100, .inl (nF b))), (d0, .inr (2, [.ref d1, .ref d2, .int (nI n)])), (d1, .inl (cI, 6, .inl (nF ms))), (d2, .inl (cZ, 6, .inl (zF up)))] := hw.sub [3, 4, 5, 0, 1, 2] (by decide) rfl
    refine lv_istore_n (lv' := [(1, .int (-1)), (0, .ref r0)]) hx hb dX6_readKey_4 rfl hl (by decide) rfl (fun ls hl => ?_)
    refine lv_iload_n hx hb dX6_readKey_5 rfl (lv_at hl 0 rfl) ?_
    refine lv_iconst (v := (-1)) hx hb dX6_readKey_6 (by decide) ?_
    refine lv_icmp_ne (tgt := 12) hx hb dX6_readKey_7 (by decide) (fun c_1 => ?_) (fun c_1 => ?_)
    · exact (by simp at c_1)
    · skip
      refine lv_iconst (v := nI 0) hx hb dX6_readKey_10 (by decide) ?_
      subst hQ
      exact r_i hx hb hr rfl hlk hw ⟨(skB b L ap), rfl, (by rw [show prF b L ap = rmF b L ap by simp only [prF, hrm]])⟩ dX6_readKey_11
  · skip
    obtain ⟨⟨m2, a2⟩, hrm⟩ := Option.ne_none_iff_exists'.mp hrm
    have ha2 : a2 ≤ L := (rm_le ha hrm).2.1
    have hm8 : m2 ≤ 8 := (rm_le ha hrm).2.2
    refine k_i (wr := [(d0, .inr (2, [.ref d1, .ref d2, .int (nI n)])), (d1, .inl (cI, 6, .inl (nF ms))), (d2, .inl (cZ, 6, .inl (zF up)))]) (j_V ⟨hx, hb, hml, hown, hts⟩ (c_X6_readMeasure l D cI cZ cB cJ b0 adK adV r0 t0 d0 t1 b L ap wp m2 a2 (by omega) (by omega) hB hrm H.size) (cwV 0 hts gX6_readKey_X6_readMeasure rfl rfl rfl (by decide +kernel) ⟨by decide, by decide⟩) hc hw [0, 1, 2] rfl rfl 6 0 rfl rfl rfl rfl hl.1 rfl (Nat.le_of_ble_eq_true rfl) dX6_readKey_1 ⟨by decide, by decide⟩) hc hw [0, 1, 2] [3, 4, 5] rfl rfl (by decide) (by decide) (fun r w H locs hq hw => ?_)
    obtain ⟨rfl, rfl⟩ := hq
    have hw : Wd D A s H locs [(r0, .inr (6, [.ref t0, .ref d0, .int (nI L), .int (nI a2), .int (nI (skB b L ap))])), (t0, .inr (8, [.ref t1, .int (nI L)])), (t1, .inl (cI, 100, .inl (nF b))), (d0, .inr (2, [.ref d1, .ref d2, .int (nI n)])), (d1, .inl (cI, 6, .inl (nF ms))), (d2, .inl (cZ, 6, .inl (zF up)))] := hw.sub [3, 4, 5, 0, 1, 2] (by decide) rfl
    refine lv_istore_n (lv' := [(1, .int (nI m2)), (0, .ref r0)]) hx hb dX6_readKey_4 rfl hl (by decide) rfl (fun ls hl => ?_)
    refine lv_iload_n hx hb dX6_readKey_5 rfl (lv_at hl 0 rfl) ?_
    refine lv_iconst (v := (-1)) hx hb dX6_readKey_6 (by decide) ?_
    refine lv_icmp_ne (tgt := 12) hx hb dX6_readKey_7 (by decide) (fun c_2 => ?_) (fun c_2 => ?_)
    · skip
      refine lv_aload_n hx hb dX6_readKey_12 rfl (lv_at hl 1 rfl) ?_
      refine k_v (wr := [(d0, .inr (2, [.ref d1, .ref d2, .int (nI n)])), (d1, .inl (cI, 6, .inl (nF ms))), (d2, .inl (cZ, 6, .inl (zF up)))]) (j_V ⟨hx, hb, hml, hown, hts⟩ (c_X6_readWord l D cI cZ cB cJ b0 adK adV r0 t0 d0 t1 b L a2 (skB b L ap) (by omega) ha2 hB H.size) (cwV 0 hts gX6_readKey_X6_readWord rfl rfl rfl (by decide +kernel) ⟨by decide, by decide⟩) hc hw [0, 1, 2] rfl rfl 6 0 rfl rfl rfl rfl hl.1 rfl (Nat.le_of_ble_eq_true rfl) dX6_readKey_13 ⟨by decide, by decide⟩) hc hw [0, 1, 2] [3, 4, 5] rfl rfl (by decide) (by decide) (fun  w H locs hq hw => ?_)
      subst hq
      have hw : Wd D A s H locs [(r0, .inr (6, [.ref t0, .ref d0, .int (nI L), .int (nI (wdE b L (skB b L a2))), .int (nI (skB b L a2))])), (t0, .inr (8, [.ref t1, .int (nI L)])), (t1, .inl (cI, 100, .inl (nF b))), (d0, .inr (2, [.ref d1, .ref d2, .int (nI n)])), (d1, .inl (cI, 6, .inl (nF ms))), (d2, .inl (cZ, 6, .inl (zF up)))] := hw.sub [3, 4, 5, 0, 1, 2] (by decide) rfl
      refine lv_aload_n hx hb dX6_readKey_16 rfl (lv_at hl 1 rfl) ?_
      refine va_ldcS (q := adK 5) hx hb hown hst5 dX6_readKey_17 ?_
      refine k_i (wr := [(d0, .inr (2, [.ref d1, .ref d2, .int (nI n)])), (d1, .inl (cI, 6, .inl (nF ms))), (d2, .inl (cZ, 6, .inl (zF up)))]) (j_V ⟨hx, hb, hml, hown, hts⟩ (c_X6_isWord l D cI cZ cB cJ b0 adK adV r0 t0 d0 t1 b L (wdE b L (skB b L a2)) (skB b L a2) 5 (by omega) (wdE_le b (skB_le b ha2)) (wdE_ge b L _) (by decide) hB H.size) (cwV 1 hts gX6_readKey_X6_isWord rfl rfl rfl (by decide +kernel) ⟨by decide, by decide⟩) hc hw [0, 1, 2] rfl rfl 6 0 rfl rfl rfl rfl hl.1 rfl (Nat.le_of_ble_eq_true rfl) dX6_readKey_19 ⟨by decide, by decide⟩) hc hw [0, 1, 2] [3, 4, 5] rfl rfl (by decide) (by decide) (fun r w H locs hq hw => ?_)
      obtain ⟨rfl, rfl⟩ := hq
      have hw : Wd D A s H locs [(r0, .inr (6, [.ref t0, .ref d0, .int (nI L), .int (nI ((wdE b L (skB b L a2)))), .int (nI ((skB b L a2)))])), (t0, .inr (8, [.ref t1, .int (nI L)])), (t1, .inl (cI, 100, .inl (nF b))), (d0, .inr (2, [.ref d1, .ref d2, .int (nI n)])), (d1, .inl (cI, 6, .inl (nF ms))), (d2, .inl (cZ, 6, .inl (zF up)))] := hw.sub [3, 4, 5, 0, 1, 2] (by decide) rfl
      refine lv_istore_n (lv' := [(2, .int (zI (isW b (skB b L a2) (wdE b L (skB b L a2)) 5))), (1, .int (nI m2)), (0, .ref r0)]) hx hb dX6_readKey_22 rfl hl (by decide) rfl (fun ls hl => ?_)
      refine lv_iload_n hx hb dX6_readKey_23 rfl (lv_at hl 0 rfl) ?_
      refine wz_if_ne (tgt := 46) hx hb dX6_readKey_24 (by decide) (fun c_3 => ?_) (fun c_3 => ?_)
      · exact (by exact absurd hk (by simp [prK, hrm, c_3]))
      · skip
        refine lv_aload_n hx hb dX6_readKey_27 rfl (lv_at hl 2 rfl) ?_
        refine va_ldcS (q := adK 6) hx hb hown hst6 dX6_readKey_28 ?_
        refine k_i (wr := [(d0, .inr (2, [.ref d1, .ref d2, .int (nI n)])), (d1, .inl (cI, 6, .inl (nF ms))), (d2, .inl (cZ, 6, .inl (zF up)))]) (j_V ⟨hx, hb, hml, hown, hts⟩ (c_X6_isWord l D cI cZ cB cJ b0 adK adV r0 t0 d0 t1 b L (wdE b L (skB b L a2)) (skB b L a2) 6 (by omega) (wdE_le b (skB_le b ha2)) (wdE_ge b L _) (by decide) hB H.size) (cwV 1 hts gX6_readKey_X6_isWord rfl rfl rfl (by decide +kernel) ⟨by decide, by decide⟩) hc hw [0, 1, 2] rfl rfl 6 0 rfl rfl rfl rfl hl.1 rfl (Nat.le_of_ble_eq_true rfl) dX6_readKey_30 ⟨by decide, by decide⟩) hc hw [0, 1, 2] [3, 4, 5] rfl rfl (by decide) (by decide) (fun r w H locs hq hw => ?_)
        obtain ⟨rfl, rfl⟩ := hq
        have hw : Wd D A s H locs [(r0, .inr (6, [.ref t0, .ref d0, .int (nI L), .int (nI ((wdE b L (skB b L a2)))), .int (nI ((skB b L a2)))])), (t0, .inr (8, [.ref t1, .int (nI L)])), (t1, .inl (cI, 100, .inl (nF b))), (d0, .inr (2, [.ref d1, .ref d2, .int (nI n)])), (d1, .inl (cI, 6, .inl (nF ms))), (d2, .inl (cZ, 6, .inl (zF up)))] := hw.sub [3, 4, 5, 0, 1, 2] (by decide) rfl
        refine wz_if_ne (tgt := 46) hx hb dX6_readKey_33 (by decide) (fun c_4 => ?_) (fun c_4 => ?_)
        · exact (by exact absurd hk (by simp [prK, hrm, c_3, c_4]))
        · skip
          refine lv_aload_n hx hb dX6_readKey_36 rfl (lv_at hl 2 rfl) ?_
          refine lv_aload_n hx hb dX6_readKey_37 rfl (lv_at hl 2 rfl) ?_
          refine w_get (C := RX6) (T := TX6) (N := 5) (ci := 6) hx hb hts in_6 hown hc hw 0 4 rfl rfl (by decide) lk_0 rfl dX6_readKey_38 ?_
          refine w_put (C := RX6) (T := TX6) (N := 5) (ci := 6) (v := .int (nI ((skB b L a2)))) (ws1 := [(r0, .inr (6, [.ref t0, .ref d0, .int (nI L), .int (nI ((skB b L a2))), .int (nI ((skB b L a2)))])), (t0, .inr (8, [.ref t1, .int (nI L)])), (t1, .inl (cI, 100, .inl (nF b))), (d0, .inr (2, [.ref d1, .ref d2, .int (nI n)])), (d1, .inl (cI, 6, .inl (nF ms))), (d2, .inl (cZ, 6, .inl (zF up)))]) hx hb hts in_6 tyX6 tyX6_ok nmX6 hown hc hw 0 3 rfl rfl (by decide) lk_1 rfl rfl rfl (Nat.le_of_ble_eq_true rfl) rfl dX6_readKey_41 (fun H locs hw => ?_)
          refine lv_iconst (v := nI 0) hx hb dX6_readKey_44 (by decide) ?_
          subst hQ
          exact r_i hx hb hr rfl hlk hw ⟨(skB b L a2), rfl, (by rw [show prF b L ap = skB b L a2 by simp only [prF, hrm]])⟩ dX6_readKey_45
    · exact (by exact absurd c_2 (nI_neg1 (by omega)))
def rm_c_X6_read : Room := { frames := 7, cells := 0, slots := 0, locals := 149 }
set_option maxHeartbeats 4000000 in
set_option maxRecDepth 100000 in
theorem c_X6_read (l : Launch) (D : va_G) (cI cZ cB cJ : ClassId) (b0 : Nat) (adK adV : Nat → Nat) (r0 t0 d0 t1 d1 d2 : Nat) (b : Nat → Nat) (L : Nat) (L0 : Nat) (ap : Nat) (wp : Nat) (ms : Nat → Nat) (up : Nat → Bool) (n : Nat) (hL : L ≤ 100) (hB : ∀ k, b k < 256) : Mi l yX6_read wsX6_read rm_c_X6_read D (TYs cI cZ cB cJ) b0 adK adV [.ref r0] [(r0, .inr (6, [.ref t0, .ref d0, .int (nI L0), .int (nI ap), .int (nI wp)])), (t0, .inr (8, [.ref t1, .int (nI L)])), (t1, .inl (cI, 100, .inl (nF b))), (d0, .inr (2, [.ref d1, .ref d2, .int (nI n)])), (d1, .inl (cI, 6, .inl (nF ms))), (d2, .inl (cZ, 6, .inl (zF up)))] (fun (r : Int32) (w : va_W) => ∃ (a9 : Nat) (w9 : Nat) (ms9 : Nat → Nat) (up9 : Nat → Bool) (n9 : Nat), (∀ acc : List (Nat × Bool), (prs b L 6 [] 0).1 = some acc → n9 = acc.length ∧ ∀ (i : Nat) (q : Nat × Bool), acc[i]? = some q → ms9 i = q.1 ∧ up9 i = q.2) ∧ (a9 = (prs b L 6 [] 0).2) ∧ (n9 ≤ 6) ∧ r = zI ((prs b L 6 [] 0).1.isSome) ∧ w = [(r0, .inr (6, [.ref t0, .ref d0, .int (nI L), .int (nI a9), .int (nI w9)])), (t0, .inr (8, [.ref t1, .int (nI L)])), (t1, .inl (cI, 100, .inl (nF b))), (d0, .inr (2, [.ref d1, .ref d2, .int (nI n9)])), (d1, .inl (cI, 6, .inl (nF ms9))), (d2, .inl (cZ, 6, .inl (zF up9)))]) 0 0 := by
  refine e_M (Qf := fun A => va_Qi (fun (r : Int32) (w : va_W) => ∃ (a9 : Nat) (w9 : Nat) (ms9 : Nat → Nat) (up9 : Nat → Bool) (n9 : Nat), (∀ acc : List (Nat × Bool), (prs b L 6 [] 0).1 = some acc → n9 = acc.length ∧ ∀ (i : Nat) (q : Nat × Bool), acc[i]? = some q → ms9 i = q.1 ∧ up9 i = q.2) ∧ (a9 = (prs b L 6 [] 0).2) ∧ (n9 ≤ 6) ∧ r = zI ((prs b L 6 [] 0).1.isSome) ∧ w = [(r0, .inr (6, [.ref t0, .ref d0, .int (nI L), .int (nI a9), .int (nI w9)])), (t0, .inr (8, [.ref t1, .int (nI L)])), (t1, .inl (cI, 100, .inl (nF b))), (d0, .inr (2, [.ref d1, .ref d2, .int (nI n9)])), (d1, .inl (cI, 6, .inl (nF ms9))), (d2, .inl (cZ, 6, .inl (zF up9)))]) (Bw D A) A) (cc := cX6_read) (maxL := 2) (ret := (some .boolean)) (by decide) rfl (Nat.le_of_ble_eq_true rfl) ?_
  intro p e s m args below meth c ls A Q H locs hx hb hr hml hts hown hlk hnm hc hw hl hQ
  have hl : lv_has ls 2 [(0, .ref r0)] := hl
  have in_6 : ∀ w ∈ u_ws RX6 TX6 5, w ∈ wsX6_read := fun _ h => List.mem_cons_of_mem _ (List.mem_append_left _ (List.mem_append_left _ (List.mem_append_right _ h)))
  have lk_0 := hts (.fieldLink RX6 28 "PloughingMatch$RuleReader" "tape" "LPloughingMatch$Tape;") (List.mem_of_getElem? (i := 1) rfl)
  have lk_1 := hts (.fieldLink RX6 18 "PloughingMatch$RuleReader" "length" "I") (List.mem_of_getElem? (i := 2) rfl)
  have lk_2 := hts (.fieldLink RX6 22 "PloughingMatch$RuleReader" "at" "I") (List.mem_of_getElem? (i := 3) rfl)
  have lk_3 := hts (.fieldLink RX6 12 "PloughingMatch$RuleReader" "draft" "LPloughingMatch$Keys;") (List.mem_of_getElem? (i := 4) rfl)
  refine lv_aload_n hx hb dX6_read_0 rfl (lv_at hl 0 rfl) ?_
  refine lv_aload_n hx hb dX6_read_1 rfl (lv_at hl 0 rfl) ?_
  refine w_get (C := RX6) (T := TX6) (N := 5) (ci := 6) hx hb hts in_6 hown hc hw 0 0 rfl rfl (by decide) lk_0 rfl dX6_read_2 ?_
  refine k_i (wr := [(r0, .inr (6, [.ref t0, .ref d0, .int (nI L0), .int (nI ap), .int (nI wp)])), (d0, .inr (2, [.ref d1, .ref d2, .int (nI n)])), (d1, .inl (cI, 6, .inl (nF ms))), (d2, .inl (cZ, 6, .inl (zF up)))]) (j_V ⟨hx, hb, hml, hown, hts⟩ (c_X8_size l D cI cZ cB cJ b0 adK adV t0 t1 b L (by omega) H.size) (cwV 0 hts gX6_read_X8_size rfl rfl rfl (by decide +kernel) ⟨by decide, by decide⟩) hc hw [1, 2] rfl rfl 8 1 rfl rfl rfl rfl hl.1 rfl (Nat.le_of_ble_eq_true rfl) dX6_read_5 ⟨by decide, by decide⟩) hc hw [1, 2] [0, 3, 4, 5] rfl rfl (by decide) (by decide) (fun r w H locs hq hw => ?_)
  obtain ⟨rfl, rfl⟩ := hq
  have hw : Wd D A s H locs [(r0, .inr (6, [.ref t0, .ref d0, .int (nI L0), .int (nI ap), .int (nI wp)])), (t0, .inr (8, [.ref t1, .int (nI L)])), (t1, .inl (cI, 100, .inl (nF b))), (d0, .inr (2, [.ref d1, .ref d2, .int (nI n)])), (d1, .inl (cI, 6, .inl (nF ms))), (d2, .inl (cZ, 6, .inl (zF up)))] := hw.sub [0, 4, 5, 1, 2, 3] (by decide) rfl
  refine w_put (C := RX6) (T := TX6) (N := 5) (ci := 6) (v := .int (nI L)) (ws1 := [(r0, .inr (6, [.ref t0, .ref d0, .int (nI L), .int (nI ap), .int (nI wp)])), (t0, .inr (8, [.ref t1, .int (nI L)])), (t1, .inl (cI, 100, .inl (nF b))), (d0, .inr (2, [.ref d1, .ref d2, .int (nI n)])), (d1, .inl (cI, 6, .inl (nF ms))), (d2, .inl (cZ, 6, .inl (zF up)))]) hx hb hts in_6 tyX6 tyX6_ok nmX6 hown hc hw 0 2 rfl rfl (by decide) lk_1 rfl rfl rfl (Nat.le_of_ble_eq_true rfl) rfl dX6_read_8 (fun H locs hw => ?_)
  refine lv_aload_n hx hb dX6_read_11 rfl (lv_at hl 0 rfl) ?_
  refine lv_iconst (v := nI 0) hx hb dX6_read_12 (by decide) ?_
  refine w_put (C := RX6) (T := TX6) (N := 5) (ci := 6) (v := .int (nI 0)) (ws1 := [(r0, .inr (6, [.ref t0, .ref d0, .int (nI L), .int (nI 0), .int (nI wp)])), (t0, .inr (8, [.ref t1, .int (nI L)])), (t1, .inl (cI, 100, .inl (nF b))), (d0, .inr (2, [.ref d1, .ref d2, .int (nI n)])), (d1, .inl (cI, 6, .inl (nF ms))), (d2, .inl (cZ, 6, .inl (zF up)))]) hx hb hts in_6 tyX6 tyX6_ok nmX6 hown hc hw 0 3 rfl rfl (by decide) lk_2 rfl rfl rfl (Nat.le_of_ble_eq_true rfl) rfl dX6_read_13 (fun H locs hw => ?_)
  refine lv_aload_n hx hb dX6_read_16 rfl (lv_at hl 0 rfl) ?_
  refine w_get (C := RX6) (T := TX6) (N := 5) (ci := 6) hx hb hts in_6 hown hc hw 0 1 rfl rfl (by decide) lk_3 rfl dX6_read_17 ?_
  refine k_v (wr := [(r0, .inr (6, [.ref t0, .ref d0, .int (nI L), .int (nI 0), .int (nI wp)])), (t0, .inr (8, [.ref t1, .int (nI L)])), (t1, .inl (cI, 100, .inl (nF b)))]) (j_V ⟨hx, hb, hml, hown, hts⟩ (c_X2_clear l D cI cZ cB cJ b0 adK adV d0 d1 d2 ms up n H.size) (cwV 0 hts gX6_read_X2_clear rfl rfl rfl (by decide +kernel) ⟨by decide, by decide⟩) hc hw [3, 4, 5] rfl rfl 2 3 rfl rfl rfl rfl hl.1 rfl (Nat.le_of_ble_eq_true rfl) dX6_read_20 ⟨by decide, by decide⟩) hc hw [3, 4, 5] [0, 1, 2] rfl rfl (by decide) (by decide) (fun  w H locs hq hw => ?_)
  subst hq
  have hw : Wd D A s H locs [(r0, .inr (6, [.ref t0, .ref d0, .int (nI L), .int (nI 0), .int (nI wp)])), (t0, .inr (8, [.ref t1, .int (nI L)])), (t1, .inl (cI, 100, .inl (nF b))), (d0, .inr (2, [.ref d1, .ref d2, .int (nI 0)])), (d1, .inl (cI, 6, .inl (nF ms))), (d2, .inl (cZ, 6, .inl (zF up)))] := hw
  refine lv_iconst (v := nI 0) hx hb dX6_read_23 (by decide) ?_
  refine lv_istore_n (lv' := [(1, .int (nI 0)), (0, .ref r0)]) hx hb dX6_read_24 rfl hl (by decide) rfl (fun ls hl => ?_)
  have key25 : ∀ (fuel : Nat) (k : Nat) (a : Nat) (w1 : Nat) (ms1 : Nat → Nat) (up1 : Nat → Bool) (acc : List (Nat × Bool)), k ≤ 5 → a ≤ L → prs b L 6 [] 0 = prs b L (6 - k) acc a → acc.length = k → (∀ (i : Nat) (q : Nat × Bool), acc[i]? = some q → ms1 i = q.1 ∧ up1 i = q.2) → 6 - k < fuel → ∀ (H : Heap) (locs : List Loc) (ls : Array Slot), Wd D A s H locs [(r0, .inr (6, [.ref t0, .ref d0, .int (nI L), .int (nI a), .int (nI w1)])), (t0, .inr (8, [.ref t1, .int (nI L)])), (t1, .inl (cI, 100, .inl (nF b))), (d0, .inr (2, [.ref d1, .ref d2, .int (nI k)])), (d1, .inl (cI, 6, .inl (nF ms1))), (d2, .inl (cZ, 6, .inl (zF up1)))] → lv_has ls 2 [(0, .ref r0), (1, .int (nI k))] → W p l e rm_c_X6_read s m args below meth c H locs 0 0 Q (F0 m 25 ls []) := by
    intro fuel
    induction fuel with
    | zero => intro k a w1 ms1 up1 acc hk ha hp hn hq hfu; exact absurd hfu (Nat.not_lt_zero _)
    | succ fuel ih =>
      intro k a w1 ms1 up1 acc hk ha hp hn hq hfu H locs ls hw hl
      have ih25 := ih
      refine lv_iload_n hx hb dX6_read_25 rfl (lv_at hl 1 rfl) ?_
      refine lv_bipush (v := nI 6) hx hb dX6_read_26 (by decide) ?_
      refine wb_icmp_ge (tgt := 96) hx hb (by omega) (by omega) dX6_read_28 (by decide) (fun c_1 => ?_) (fun c_1 => ?_)
      · exact (by omega)
      · skip
        refine lv_aload_n hx hb dX6_read_31 rfl (lv_at hl 0 rfl) ?_
        by_cases hk9 : prK b L a = none
        · skip
          refine k_i (wr := []) (j_V ⟨hx, hb, hml, hown, hts⟩ (c_X6_readKey_no l D cI cZ cB cJ b0 adK adV r0 t0 d0 t1 d1 d2 b L a w1 ms1 up1 k (by omega) (by omega) hB (by omega) hk9 H.size) (cwV 0 hts gX6_read_X6_readKey rfl rfl rfl (by decide +kernel) ⟨by decide, by decide⟩) hc hw [0, 1, 2, 3, 4, 5] rfl rfl 6 0 rfl rfl rfl rfl hl.1 rfl (Nat.le_of_ble_eq_true rfl) dX6_read_32 ⟨by decide, by decide⟩) hc hw [0, 1, 2, 3, 4, 5] [] rfl rfl (by decide) (by decide) (fun r w H locs hq hw => ?_)
          obtain ⟨w1_2, rfl, rfl⟩ := hq
          have hw : Wd D A s H locs [(r0, .inr (6, [.ref t0, .ref d0, .int (nI L), .int (nI (prF b L a)), .int (nI w1_2)])), (t0, .inr (8, [.ref t1, .int (nI L)])), (t1, .inl (cI, 100, .inl (nF b))), (d0, .inr (2, [.ref d1, .ref d2, .int (nI k)])), (d1, .inl (cI, 6, .inl (nF ms1))), (d2, .inl (cZ, 6, .inl (zF up1)))] := hw
          refine wz_if_ne (tgt := 40) hx hb dX6_read_35 (by decide) (fun c => absurd c (by decide)) (fun _ => ?_)
          refine lv_iconst (v := nI 0) hx hb dX6_read_38 (by decide) ?_
          have hR : prs b L 6 [] 0 = (none, prF b L a) := (by rw [hp, prs_s (by omega), hk9])
          subst hQ
          exact r_i hx hb hr rfl hlk hw ⟨(prF b L a), w1_2, ms1, up1, k, (fun acc9 h9 => by rw [hR] at h9; cases h9), (by rw [hR]), (by omega), (zI_f (by rw [hR]; rfl)), rfl⟩ dX6_read_39
        · skip
          obtain ⟨⟨⟨mz, u⟩, a1⟩, hk9⟩ := Option.ne_none_iff_exists'.mp hk9
          have hk8 := prK_le ha hk9
          have hsk := skB_le b hk8.2.1
          refine k_i (wr := []) (j_V ⟨hx, hb, hml, hown, hts⟩ (c_X6_readKey l D cI cZ cB cJ b0 adK adV r0 t0 d0 t1 d1 d2 b L a w1 ms1 up1 k mz u a1 (by omega) (by omega) hB (by omega) hk9 H.size) (cwV 0 hts gX6_read_X6_readKey rfl rfl rfl (by decide +kernel) ⟨by decide, by decide⟩) hc hw [0, 1, 2, 3, 4, 5] rfl rfl 6 0 rfl rfl rfl rfl hl.1 rfl (Nat.le_of_ble_eq_true rfl) dX6_read_32 ⟨by decide, by decide⟩) hc hw [0, 1, 2, 3, 4, 5] [] rfl rfl (by decide) (by decide) (fun r w H locs hq hw => ?_)
          obtain ⟨w1_4, rfl, rfl⟩ := hq
          have hw : Wd D A s H locs [(r0, .inr (6, [.ref t0, .ref d0, .int (nI L), .int (nI a1), .int (nI w1_4)])), (t0, .inr (8, [.ref t1, .int (nI L)])), (t1, .inl (cI, 100, .inl (nF b))), (d0, .inr (2, [.ref d1, .ref d2, .int (nI (k + 1))])), (d1, .inl (cI, 6, .inl (nF (va_up ms1 k mz)))), (d2, .inl (cZ, 6, .inl (zF (va_up up1 k u))))] := hw
          refine wz_if_ne (tgt := 40) hx hb dX6_read_35 (by decide) (fun _ => ?_) (fun c => absurd c (by decide))
          refine lv_aload_n hx hb dX6_read_40 rfl (lv_at hl 0 rfl) ?_
          refine k_v (wr := [(d0, .inr (2, [.ref d1, .ref d2, .int (nI (k + 1))])), (d1, .inl (cI, 6, .inl (nF (va_up ms1 k mz)))), (d2, .inl (cZ, 6, .inl (zF (va_up up1 k u))))]) (j_V ⟨hx, hb, hml, hown, hts⟩ (c_X6_skipBlanks l D cI cZ cB cJ b0 adK adV r0 t0 d0 t1 b L a1 w1_4 (by omega) hk8.2.1 hB H.size) (cwV 0 hts gX6_read_X6_skipBlanks rfl rfl rfl (by decide +kernel) ⟨by decide, by decide⟩) hc hw [0, 1, 2] rfl rfl 6 0 rfl rfl rfl rfl hl.1 rfl (Nat.le_of_ble_eq_true rfl) dX6_read_41 ⟨by decide, by decide⟩) hc hw [0, 1, 2] [3, 4, 5] rfl rfl (by decide) (by decide) (fun  w H locs hq hw => ?_)
          subst hq
          have hw : Wd D A s H locs [(r0, .inr (6, [.ref t0, .ref d0, .int (nI L), .int (nI (skB b L a1)), .int (nI w1_4)])), (t0, .inr (8, [.ref t1, .int (nI L)])), (t1, .inl (cI, 100, .inl (nF b))), (d0, .inr (2, [.ref d1, .ref d2, .int (nI (k + 1))])), (d1, .inl (cI, 6, .inl (nF (va_up ms1 k mz)))), (d2, .inl (cZ, 6, .inl (zF (va_up up1 k u))))] := hw.sub [3, 4, 5, 0, 1, 2] (by decide) rfl
          refine lv_aload_n hx hb dX6_read_44 rfl (lv_at hl 0 rfl) ?_
          refine w_get (C := RX6) (T := TX6) (N := 5) (ci := 6) hx hb hts in_6 hown hc hw 0 3 rfl rfl (by decide) lk_2 rfl dX6_read_45 ?_
          refine lv_aload_n hx hb dX6_read_48 rfl (lv_at hl 0 rfl) ?_
          refine w_get (C := RX6) (T := TX6) (N := 5) (ci := 6) hx hb hts in_6 hown hc hw 0 2 rfl rfl (by decide) lk_1 rfl dX6_read_49 ?_
          refine wb_icmp_lt (tgt := 57) hx hb (by omega) (by omega) dX6_read_52 (by decide) (fun c_6 => ?_) (fun c_6 => ?_)
          · skip
            refine lv_aload_n hx hb dX6_read_57 rfl (lv_at hl 0 rfl) ?_
            refine w_get (C := RX6) (T := TX6) (N := 5) (ci := 6) hx hb hts in_6 hown hc hw 0 0 rfl rfl (by decide) lk_0 rfl dX6_read_58 ?_
            refine lv_aload_n hx hb dX6_read_61 rfl (lv_at hl 0 rfl) ?_
            refine w_get (C := RX6) (T := TX6) (N := 5) (ci := 6) hx hb hts in_6 hown hc hw 0 3 rfl rfl (by decide) lk_2 rfl dX6_read_62 ?_
            refine k_i (wr := [(r0, .inr (6, [.ref t0, .ref d0, .int (nI L), .int (nI (skB b L a1)), .int (nI w1_4)])), (d0, .inr (2, [.ref d1, .ref d2, .int (nI (k + 1))])), (d1, .inl (cI, 6, .inl (nF (va_up ms1 k mz)))), (d2, .inl (cZ, 6, .inl (zF (va_up up1 k u))))]) (j_V ⟨hx, hb, hml, hown, hts⟩ (c_X8_byteAt l D cI cZ cB cJ b0 adK adV t0 t1 b L (skB b L a1) (by omega) (by omega) H.size) (cwV 1 hts gX6_read_X8_byteAt rfl rfl rfl (by decide +kernel) ⟨by decide, by decide⟩) hc hw [1, 2] rfl rfl 8 1 rfl rfl rfl rfl hl.1 rfl (Nat.le_of_ble_eq_true rfl) dX6_read_65 ⟨by decide, by decide⟩) hc hw [1, 2] [0, 3, 4, 5] rfl rfl (by decide) (by decide) (fun r w H locs hq hw => ?_)
            obtain ⟨rfl, rfl⟩ := hq
            have hw : Wd D A s H locs [(r0, .inr (6, [.ref t0, .ref d0, .int (nI L), .int (nI (skB b L a1)), .int (nI w1_4)])), (t0, .inr (8, [.ref t1, .int (nI L)])), (t1, .inl (cI, 100, .inl (nF b))), (d0, .inr (2, [.ref d1, .ref d2, .int (nI (k + 1))])), (d1, .inl (cI, 6, .inl (nF (va_up ms1 k mz)))), (d2, .inl (cZ, 6, .inl (zF (va_up up1 k u))))] := hw.sub [0, 4, 5, 1, 2, 3] (by decide) rfl
            refine lv_bipush (v := nI 44) hx hb dX6_read_68 (by decide) ?_
            refine wb_icmp_ne (tgt := 78) hx hb (by have := hB (skB b L a1); omega) (by omega) dX6_read_70 (by decide) (fun c_7 => ?_) (fun c_7 => ?_)
            · skip
              refine lv_iconst (v := nI 0) hx hb dX6_read_78 (by decide) ?_
              have hR : prs b L 6 [] 0 = (none, skB b L a1) := (by rw [hp, prs_s (by omega), hk9]; dsimp only; rw [if_neg (by omega), if_neg (by omega)])
              subst hQ
              exact r_i hx hb hr rfl hlk hw ⟨(skB b L a1), w1_4, (va_up ms1 k mz), (va_up up1 k u), (k + 1), (fun acc9 h9 => by rw [hR] at h9; cases h9), (by rw [hR]), (by omega), (zI_f (by rw [hR]; rfl)), rfl⟩ dX6_read_79
            · skip
              refine lv_iload_n hx hb dX6_read_73 rfl (lv_at hl 1 rfl) ?_
              refine lv_iconst (v := nI 5) hx hb dX6_read_74 (by decide) ?_
              refine wb_icmp_ne (tgt := 80) hx hb (by omega) (by omega) dX6_read_75 (by decide) (fun c_8 => ?_) (fun c_8 => ?_)
              · skip
                refine lv_aload_n hx hb dX6_read_80 rfl (lv_at hl 0 rfl) ?_
                refine lv_dup hx hb dX6_read_81 rfl ?_
                refine w_get (C := RX6) (T := TX6) (N := 5) (ci := 6) hx hb hts in_6 hown hc hw 0 3 rfl rfl (by decide) lk_2 rfl dX6_read_82 ?_
                refine lv_iconst (v := nI 1) hx hb dX6_read_85 (by decide) ?_
                refine wn_iadd hx hb dX6_read_86 ?_
                refine w_put (C := RX6) (T := TX6) (N := 5) (ci := 6) (v := .int (nI (skB b L a1 + 1))) (ws1 := [(r0, .inr (6, [.ref t0, .ref d0, .int (nI L), .int (nI (skB b L a1 + 1)), .int (nI w1_4)])), (t0, .inr (8, [.ref t1, .int (nI L)])), (t1, .inl (cI, 100, .inl (nF b))), (d0, .inr (2, [.ref d1, .ref d2, .int (nI (k + 1))])), (d1, .inl (cI, 6, .inl (nF (va_up ms1 k mz)))), (d2, .inl (cZ, 6, .inl (zF (va_up up1 k u))))]) hx hb hts in_6 tyX6 tyX6_ok nmX6 hown hc hw 0 3 rfl rfl (by decide) lk_2 rfl rfl rfl (Nat.le_of_ble_eq_true rfl) rfl dX6_read_87 (fun H locs hw => ?_)
                refine wn_iinc (a := k) (d := 1) (lv' := [(1, .int (nI (k + 1))), (0, .ref r0)]) hx hb dX6_read_90 hl (k := 1) rfl (by decide) rfl (fun ls hl => ?_)
                refine lv_goto (tgt := 25) hx hb dX6_read_93 (by decide) ?_
                exact ih25 (k + 1) (skB b L a1 + 1) w1_4 (va_up ms1 k mz) (va_up up1 k u) (acc ++ [(mz, u)]) (by omega) (by omega) (by rw [hp, prs_s (by omega), hk9]; dsimp only; rw [if_neg (by omega), if_pos ⟨by assumption, by assumption⟩]) (by rw [List.length_append, hn]; rfl) (prs_app hn hq) (by omega) _ _ _ hw (lv_sub hl [1, 0] rfl)
              · skip
                refine lv_iconst (v := nI 0) hx hb dX6_read_78 (by decide) ?_
                have hR : prs b L 6 [] 0 = (none, skB b L a1) := (by rw [hp, prs_s (by omega), hk9]; dsimp only; rw [if_neg (by omega), if_neg (by omega)])
                subst hQ
                exact r_i hx hb hr rfl hlk hw ⟨(skB b L a1), w1_4, (va_up ms1 k mz), (va_up up1 k u), (k + 1), (fun acc9 h9 => by rw [hR] at h9; cases h9), (by rw [hR]), (by omega), (zI_f (by rw [hR]; rfl)), rfl⟩ dX6_read_79
          · skip
            refine lv_iconst (v := nI 1) hx hb dX6_read_55 (by decide) ?_
            have hR : prs b L 6 [] 0 = (some (acc ++ [(mz, u)]), skB b L a1) := (by rw [hp, prs_s (by omega), hk9]; dsimp only; rw [if_pos (by omega)])
            subst hQ
            exact r_i hx hb hr rfl hlk hw ⟨(skB b L a1), w1_4, (va_up ms1 k mz), (va_up up1 k u), (k + 1), (fun acc9 h9 => by rw [hR] at h9; cases h9; exact ⟨by rw [List.length_append, hn]; rfl, prs_app hn hq⟩), (by rw [hR]), (by omega), (zI_t (by rw [hR]; rfl)), rfl⟩ dX6_read_56
  exact key25 (6 - 0 + 1) 0 0 wp ms up ([]) (by omega) (by omega) rfl rfl (fun i q h => by cases h) (Nat.lt_succ_self _) _ _ _ hw (lv_sub hl [1, 0] rfl)
def rm_c_X6_draft : Room := { frames := 0, cells := 0, slots := 0, locals := 0 }
set_option maxHeartbeats 4000000 in
set_option maxRecDepth 100000 in
theorem c_X6_draft (l : Launch) (D : va_G) (cI cZ cB cJ : ClassId) (b0 : Nat) (adK adV : Nat → Nat) (r0 t0 d0 t1 : Nat) (b : Nat → Nat) (L : Nat) (ap : Nat) (wp : Nat) : Mr l yX6_draft wsX6_draft rm_c_X6_draft D (TYs cI cZ cB cJ) b0 adK adV [.ref r0] [(r0, .inr (6, [.ref t0, .ref d0, .int (nI L), .int (nI ap), .int (nI wp)]))] (fun w : va_W => w = [(r0, .inr (6, [.ref t0, .ref d0, .int (nI L), .int (nI ap), .int (nI wp)]))]) d0 0 0 := by
  refine e_M (Qf := fun A => va_Qr (fun w : va_W => w = [(r0, .inr (6, [.ref t0, .ref d0, .int (nI L), .int (nI ap), .int (nI wp)]))]) (Br D A d0) A) (cc := cX6_draft) (maxL := 1) (ret := (some (.object "PloughingMatch$Keys"))) (by decide) rfl (Nat.le_of_ble_eq_true rfl) ?_
  intro p e s m args below meth c ls A Q H locs hx hb hr hml hts hown hlk hnm hc hw hl hQ
  have hl : lv_has ls 1 [(0, .ref r0)] := hl
  have in_6 : ∀ w ∈ u_ws RX6 TX6 5, w ∈ wsX6_draft := fun _ h => List.mem_cons_of_mem _ (List.mem_append_right _ h)
  have lk_0 := hts (.fieldLink RX6 12 "PloughingMatch$RuleReader" "draft" "LPloughingMatch$Keys;") (List.mem_of_getElem? (i := 1) rfl)
  refine lv_aload_n hx hb dX6_draft_0 rfl (lv_at hl 0 rfl) ?_
  refine w_get (C := RX6) (T := TX6) (N := 5) (ci := 6) hx hb hts in_6 hown hc hw 0 1 rfl rfl (by decide) lk_0 rfl dX6_draft_1 ?_
  subst hQ
  exact r_r hx hb hr hlk hw rfl dX6_draft_4
def rm_c_X6_init : Room := { frames := 2, cells := 3, slots := 15, locals := 32 }
set_option maxHeartbeats 4000000 in
set_option maxRecDepth 100000 in
theorem c_X6_init (l : Launch) (D : va_G) (cI cZ cB cJ : ClassId) (b0 : Nat) (adK adV : Nat → Nat) (r0 t0 : Nat) : Mv l yX6_init wsX6_init rm_c_X6_init D (TYs cI cZ cB cJ) b0 adK adV [.ref r0, .ref t0] [(r0, .inr (6, [.null, .null, .int (nI 0), .int (nI 0), .int (nI 0)]))] (fun w : va_W => ∃ (d0 : Nat) (d1 : Nat) (d2 : Nat), w = [(r0, .inr (6, [.ref t0, .ref d0, .int (nI 0), .int (nI 0), .int (nI 0)])), (d0, .inr (2, [.ref d1, .ref d2, .int (nI 0)])), (d1, .inl (cI, 6, .inl (nF (fun _ => 0)))), (d2, .inl (cZ, 6, .inl (zF (fun _ => false))))]) 3 15 := by
  refine e_M (Qf := fun A => va_Qv (fun w : va_W => ∃ (d0 : Nat) (d1 : Nat) (d2 : Nat), w = [(r0, .inr (6, [.ref t0, .ref d0, .int (nI 0), .int (nI 0), .int (nI 0)])), (d0, .inr (2, [.ref d1, .ref d2, .int (nI 0)])), (d1, .inl (cI, 6, .inl (nF (fun _ => 0)))), (d2, .inl (cZ, 6, .inl (zF (fun _ => false))))]) (Bw D A) A) (cc := cX6_init) (maxL := 2) (ret := none) (by decide) rfl (Nat.le_of_ble_eq_true rfl) ?_
  intro p e s m args below meth c ls A Q H locs hx hb hr hml hts hown hlk hnm hc hw hl hQ
  have hl : lv_has ls 2 [(0, .ref r0), (1, .ref t0)] := hl
  have in_2 : ∀ w ∈ u_ws RX2 TX2 3, w ∈ wsX6_init := fun _ h => List.mem_cons_of_mem _ (List.mem_append_left _ (List.mem_append_right _ h))
  have in_6 : ∀ w ∈ u_ws RX6 TX6 5, w ∈ wsX6_init := fun _ h => List.mem_cons_of_mem _ (List.mem_append_right _ h)
  have lk_0 := hts (.methodLink RX6 3 objectInit) (List.mem_of_getElem? (i := 1) rfl)
  have lk_1 := hts (.instanceMethod objectInit) (List.mem_of_getElem? (i := 2) rfl)
  have lk_2 := hts (.classLink RX6 9 RX2) (List.mem_of_getElem? (i := 4) rfl)
  have lk_3 := hts (.instantiable RX2 3) (List.mem_of_getElem? (i := 5) rfl)
  have lk_4 := hts (.initialized RX2) (List.mem_of_getElem? (i := 6) rfl)
  have lk_5 := hts (.instanceMethod yX2_init) (List.mem_of_getElem? (i := 12) rfl)
  have lk_6 := hts (.fieldLink RX6 12 "PloughingMatch$RuleReader" "draft" "LPloughingMatch$Keys;") (List.mem_of_getElem? (i := 7) rfl)
  have lk_7 := hts (.fieldLink RX6 18 "PloughingMatch$RuleReader" "length" "I") (List.mem_of_getElem? (i := 8) rfl)
  have lk_8 := hts (.fieldLink RX6 22 "PloughingMatch$RuleReader" "at" "I") (List.mem_of_getElem? (i := 9) rfl)
  have lk_9 := hts (.fieldLink RX6 25 "PloughingMatch$RuleReader" "wordStart" "I") (List.mem_of_getElem? (i := 10) rfl)
  have lk_10 := hts (.fieldLink RX6 28 "PloughingMatch$RuleReader" "tape" "LPloughingMatch$Tape;") (List.mem_of_getElem? (i := 11) rfl)
  refine lv_aload_n hx hb dX6_init_0 rfl (lv_at hl 0 rfl) ?_
  refine W.objInit hx hb hown lk_0 lk_1 (hts _ (List.mem_of_getElem? (i := 3) rfl)) rfl (by rw [hml]; exact hl.1) rfl dX6_init_1 (Nat.le_of_ble_eq_true rfl) (Nat.le_of_ble_eq_true rfl) ?_
  refine W.eq (g2 := F0 m 4 ls []) rfl ?_
  refine lv_aload_n hx hb dX6_init_4 rfl (lv_at hl 0 rfl) ?_
  refine va_new (ci := 2) (fs := [.null, .null, .int (nI 0)]) (C := RX2) (T := TX2) (N := 3) hx hb hts in_2 tyX2 tyX2_ok hown lk_2 lk_3 lk_4 hc.1 hw.1 hw.2.1 hw.2.2 hc.2.1 rfl (fun j hj => by rcases (show j = 0 ∨ j = 1 ∨ j = 2 by omega) with rfl | rfl | rfl <;> rfl) (by decide) (by decide) dX6_init_5 (fun d0 H hP hD hS => ?_)
  have hw : Wd D A s H _ [(r0, .inr (6, [.null, .null, .int (nI 0), .int (nI 0), .int (nI 0)])), (d0, .inr (2, [.null, .null, .int (nI 0)]))] := ⟨hP, hD, hS⟩
  refine W.widen (k := 1) (n := 3) (by decide) (by decide) ?_
  refine lv_dup hx hb dX6_init_8 rfl ?_
  refine k_v (wr := [(r0, .inr (6, [.null, .null, .int (nI 0), .int (nI 0), .int (nI 0)]))]) (j_IN ⟨hx, hb, hml, hown, hts⟩ (c_X2_init l D cI cZ cB cJ b0 adK adV d0 H.size) ⟨(va_cnB 0 hts gX6_init_X2_init_n11 rfl rfl rfl (hc.2.2.2.2.1 _ (List.mem_of_getElem? (i := 5) rfl)) lk_4 (by decide +kernel) ⟨by decide, by decide⟩), rfl, lk_5⟩ hc hw [1] rfl rfl rfl hl.1 rfl (Nat.le_of_ble_eq_true rfl) dX6_init_9 ⟨by decide, by decide⟩) hc hw [1] [0] rfl rfl (by decide) (by decide) (fun  w H locs hq hw => ?_)
  obtain ⟨a1_1, a2_2, rfl⟩ := hq
  have hw : Wd D A s H locs [(r0, .inr (6, [.null, .null, .int (nI 0), .int (nI 0), .int (nI 0)])), (d0, .inr (2, [.ref a1_1, .ref a2_2, .int (nI 0)])), (a1_1, .inl (cI, 6, .inl (nF (fun _ => 0)))), (a2_2, .inl (cZ, 6, .inl (zF (fun _ => false))))] := hw
  refine W.widen (k := 3) (n := 15) (by decide) (by decide) ?_
  refine w_putF (C := RX6) (T := TX6) (N := 5) (ci := 6) (v := .ref d0) (ws1 := [(r0, .inr (6, [.null, .ref d0, .int (nI 0), .int (nI 0), .int (nI 0)])), (d0, .inr (2, [.ref a1_1, .ref a2_2, .int (nI 0)])), (a1_1, .inl (cI, 6, .inl (nF (fun _ => 0)))), (a2_2, .inl (cZ, 6, .inl (zF (fun _ => false))))]) hx hb hts in_6 tyX6 tyX6_ok nmX6 hown hc hw 0 1 rfl rfl (by decide) lk_6 rfl hnm rfl rfl rfl (Nat.le_of_ble_eq_true rfl) rfl dX6_init_12 (fun H locs hw => ?_)
  refine lv_aload_n hx hb dX6_init_15 rfl (lv_at hl 0 rfl) ?_
  refine lv_iconst (v := nI 0) hx hb dX6_init_16 (by decide) ?_
  refine w_put (C := RX6) (T := TX6) (N := 5) (ci := 6) (v := .int (nI 0)) (ws1 := [(r0, .inr (6, [.null, .ref d0, .int (nI 0), .int (nI 0), .int (nI 0)])), (d0, .inr (2, [.ref a1_1, .ref a2_2, .int (nI 0)])), (a1_1, .inl (cI, 6, .inl (nF (fun _ => 0)))), (a2_2, .inl (cZ, 6, .inl (zF (fun _ => false))))]) hx hb hts in_6 tyX6 tyX6_ok nmX6 hown hc hw 0 2 rfl rfl (by decide) lk_7 rfl rfl rfl (Nat.le_of_ble_eq_true rfl) rfl dX6_init_17 (fun H locs hw => ?_)
  refine lv_aload_n hx hb dX6_init_20 rfl (lv_at hl 0 rfl) ?_
  refine lv_iconst (v := nI 0) hx hb dX6_init_21 (by decide) ?_
  refine w_put (C := RX6) (T := TX6) (N := 5) (ci := 6) (v := .int (nI 0)) (ws1 := [(r0, .inr (6, [.null, .ref d0, .int (nI 0), .int (nI 0), .int (nI 0)])), (d0, .inr (2, [.ref a1_1, .ref a2_2, .int (nI 0)])), (a1_1, .inl (cI, 6, .inl (nF (fun _ => 0)))), (a2_2, .inl (cZ, 6, .inl (zF (fun _ => false))))]) hx hb hts in_6 tyX6 tyX6_ok nmX6 hown hc hw 0 3 rfl rfl (by decide) lk_8 rfl rfl rfl (Nat.le_of_ble_eq_true rfl) rfl dX6_init_22 (fun H locs hw => ?_)
  refine lv_aload_n hx hb dX6_init_25 rfl (lv_at hl 0 rfl) ?_
  refine lv_iconst (v := nI 0) hx hb dX6_init_26 (by decide) ?_
  refine w_put (C := RX6) (T := TX6) (N := 5) (ci := 6) (v := .int (nI 0)) (ws1 := [(r0, .inr (6, [.null, .ref d0, .int (nI 0), .int (nI 0), .int (nI 0)])), (d0, .inr (2, [.ref a1_1, .ref a2_2, .int (nI 0)])), (a1_1, .inl (cI, 6, .inl (nF (fun _ => 0)))), (a2_2, .inl (cZ, 6, .inl (zF (fun _ => false))))]) hx hb hts in_6 tyX6 tyX6_ok nmX6 hown hc hw 0 4 rfl rfl (by decide) lk_9 rfl rfl rfl (Nat.le_of_ble_eq_true rfl) rfl dX6_init_27 (fun H locs hw => ?_)
  refine lv_aload_n hx hb dX6_init_30 rfl (lv_at hl 0 rfl) ?_
  refine lv_aload_n hx hb dX6_init_31 rfl (lv_at hl 1 rfl) ?_
  refine w_putF (C := RX6) (T := TX6) (N := 5) (ci := 6) (v := .ref t0) (ws1 := [(r0, .inr (6, [.ref t0, .ref d0, .int (nI 0), .int (nI 0), .int (nI 0)])), (d0, .inr (2, [.ref a1_1, .ref a2_2, .int (nI 0)])), (a1_1, .inl (cI, 6, .inl (nF (fun _ => 0)))), (a2_2, .inl (cZ, 6, .inl (zF (fun _ => false))))]) hx hb hts in_6 tyX6 tyX6_ok nmX6 hown hc hw 0 0 rfl rfl (by decide) lk_10 rfl hnm rfl rfl rfl (Nat.le_of_ble_eq_true rfl) rfl dX6_init_32 (fun H locs hw => ?_)
  subst hQ
  exact r_v hx hb hr hlk hw ⟨d0, a1_1, a2_2, rfl⟩ dX6_init_35
