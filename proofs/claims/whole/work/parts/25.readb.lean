def rm_c_X6_isWord : Room := { frames := 4, cells := 0, slots := 0, locals := 85 }
set_option maxHeartbeats 4000000 in
set_option maxRecDepth 100000 in
theorem c_X6_isWord (l : Launch) (D : va_G) (cI cZ cB cJ : ClassId) (b0 : Nat) (adK adV : Nat → Nat) (r0 t0 d0 t1 : Nat) (b : Nat → Nat) (L : Nat) (ap : Nat) (wp : Nat) (i : Nat) (hL : L ≤ 100) (ha : ap ≤ L) (hw0 : wp ≤ ap) (hi : i < 7) (hB : ∀ k, b k < 256) : Mi l yX6_isWord wsX6_isWord rm_c_X6_isWord D (TYs cI cZ cB cJ) b0 adK adV [.ref r0, .ref (adK i)] [(r0, .inr (6, [.ref t0, .ref d0, .int (nI L), .int (nI ap), .int (nI wp)])), (t0, .inr (8, [.ref t1, .int (nI L)])), (t1, .inl (cI, 100, .inl (nF b)))] (fun (r : Int32) (w : va_W) => r = zI (isW b wp ap i) ∧ w = [(r0, .inr (6, [.ref t0, .ref d0, .int (nI L), .int (nI ap), .int (nI wp)])), (t0, .inr (8, [.ref t1, .int (nI L)])), (t1, .inl (cI, 100, .inl (nF b)))]) 0 0 := by
  refine e_M (Qf := fun A => va_Qi (fun (r : Int32) (w : va_W) => r = zI (isW b wp ap i) ∧ w = [(r0, .inr (6, [.ref t0, .ref d0, .int (nI L), .int (nI ap), .int (nI wp)])), (t0, .inr (8, [.ref t1, .int (nI L)])), (t1, .inl (cI, 100, .inl (nF b)))]) (Bw D A) A) (cc := cX6_isWord) (maxL := 3) (ret := (some .boolean)) (by decide) rfl (Nat.le_of_ble_eq_true rfl) ?_
  intro p e s m args below meth c ls A Q H locs hx hb hr hml hts hown hlk hnm hc hw hl hQ
  have hl : lv_has ls 3 [(0, .ref r0), (1, .ref (adK i))] := hl
  have in_6 : ∀ w ∈ u_ws RX6 TX6 5, w ∈ wsX6_isWord := fun _ h => List.mem_cons_of_mem _ (List.mem_append_left _ (List.mem_append_right _ h))
  have lk_0 := hts (.fieldLink RX6 22 "PloughingMatch$RuleReader" "at" "I") (List.mem_of_getElem? (i := 1) rfl)
  have lk_1 := hts (.fieldLink RX6 25 "PloughingMatch$RuleReader" "wordStart" "I") (List.mem_of_getElem? (i := 2) rfl)
  have lk_2 := hts (.fieldLink RX6 28 "PloughingMatch$RuleReader" "tape" "LPloughingMatch$Tape;") (List.mem_of_getElem? (i := 3) rfl)
  refine lv_aload_n hx hb dX6_isWord_0 rfl (lv_at hl 0 rfl) ?_
  refine w_get (C := RX6) (T := TX6) (N := 5) (ci := 6) hx hb hts in_6 hown hc hw 0 3 rfl rfl (by decide) lk_0 rfl dX6_isWord_1 ?_
  refine lv_aload_n hx hb dX6_isWord_4 rfl (lv_at hl 0 rfl) ?_
  refine w_get (C := RX6) (T := TX6) (N := 5) (ci := 6) hx hb hts in_6 hown hc hw 0 4 rfl rfl (by decide) lk_1 rfl dX6_isWord_5 ?_
  refine wn_isub hx hb (by omega) dX6_isWord_8 ?_
  refine lv_aload_n hx hb dX6_isWord_9 rfl (lv_at hl 1 rfl) ?_
  refine k_i (wr := [(r0, .inr (6, [.ref t0, .ref d0, .int (nI L), .int (nI ap), .int (nI wp)])), (t0, .inr (8, [.ref t1, .int (nI L)])), (t1, .inl (cI, 100, .inl (nF b)))]) (j_VS ⟨hx, hb, hml, hown, hts⟩ (c_J0_length_8abf5 l D cI cZ cB cJ b0 adK adV i (by omega) H.size) (cwV 0 hts gX6_isWord_J0_length_8abf5 rfl rfl rfl (by decide +kernel) ⟨by decide, by decide⟩) hc hw [] rfl rfl (am_rec hc hw _ (by omega)) rfl hl.1 rfl (Nat.le_of_ble_eq_true rfl) dX6_isWord_10 ⟨by decide, by decide⟩) hc hw [] [0, 1, 2] rfl rfl (by decide) (by decide) (fun r w H locs hq hw => ?_)
  obtain ⟨rfl, rfl⟩ := hq
  have hw : Wd D A s H locs [(r0, .inr (6, [.ref t0, .ref d0, .int (nI L), .int (nI ap), .int (nI wp)])), (t0, .inr (8, [.ref t1, .int (nI L)])), (t1, .inl (cI, 100, .inl (nF b)))] := hw
  refine wb_icmp_eq (tgt := 18) hx hb (by omega) (am_len i) dX6_isWord_13 (by decide) (fun c_1 => ?_) (fun c_1 => ?_)
  · skip
    refine lv_iconst (v := nI 0) hx hb dX6_isWord_18 (by decide) ?_
    refine lv_istore_n (lv' := [(2, .int (nI 0)), (0, .ref r0), (1, .ref (adK i))]) hx hb dX6_isWord_19 rfl hl (by decide) rfl (fun ls hl => ?_)
    have key20 : ∀ (fuel : Nat) (k : Nat), k ≤ amb_lens.getD i 0 → wEq b wp i k = true → amb_lens.getD i 0 - k < fuel → ∀ (H : Heap) (locs : List Loc) (ls : Array Slot), Wd D A s H locs [(r0, .inr (6, [.ref t0, .ref d0, .int (nI L), .int (nI ap), .int (nI wp)])), (t0, .inr (8, [.ref t1, .int (nI L)])), (t1, .inl (cI, 100, .inl (nF b)))] → lv_has ls 3 [(0, .ref r0), (1, .ref (adK i)), (2, .int (nI k))] → W p l e rm_c_X6_isWord s m args below meth c H locs 0 0 Q (F0 m 20 ls []) := by
      intro fuel
      induction fuel with
      | zero => intro k hk e1 hfu; exact absurd hfu (Nat.not_lt_zero _)
      | succ fuel ih =>
        intro k hk e1 hfu H locs ls hw hl
        have ih20 := ih
        refine lv_iload_n hx hb dX6_isWord_20 rfl (lv_at hl 2 rfl) ?_
        refine lv_aload_n hx hb dX6_isWord_21 rfl (lv_at hl 1 rfl) ?_
        refine k_i (wr := [(r0, .inr (6, [.ref t0, .ref d0, .int (nI L), .int (nI ap), .int (nI wp)])), (t0, .inr (8, [.ref t1, .int (nI L)])), (t1, .inl (cI, 100, .inl (nF b)))]) (j_VS ⟨hx, hb, hml, hown, hts⟩ (c_J0_length_8abf5 l D cI cZ cB cJ b0 adK adV i (by omega) H.size) (cwV 0 hts gX6_isWord_J0_length_8abf5 rfl rfl rfl (by decide +kernel) ⟨by decide, by decide⟩) hc hw [] rfl rfl (am_rec hc hw _ (by omega)) rfl hl.1 rfl (Nat.le_of_ble_eq_true rfl) dX6_isWord_22 ⟨by decide, by decide⟩) hc hw [] [0, 1, 2] rfl rfl (by decide) (by decide) (fun r w H locs hq hw => ?_)
        obtain ⟨rfl, rfl⟩ := hq
        have hw : Wd D A s H locs [(r0, .inr (6, [.ref t0, .ref d0, .int (nI L), .int (nI ap), .int (nI wp)])), (t0, .inr (8, [.ref t1, .int (nI L)])), (t1, .inl (cI, 100, .inl (nF b)))] := hw
        refine wb_icmp_ge (tgt := 57) hx hb (by omega) (am_len i) dX6_isWord_25 (by decide) (fun c_2 => ?_) (fun c_2 => ?_)
        · skip
          refine lv_iconst (v := nI 1) hx hb dX6_isWord_57 (by decide) ?_
          subst hQ
          exact r_i hx hb hr rfl hlk hw ⟨(zI_t (isW_t c_1 (by rw [show amb_lens.getD i 0 = k by omega]; exact e1))), rfl⟩ dX6_isWord_58
        · skip
          refine lv_aload_n hx hb dX6_isWord_28 rfl (lv_at hl 0 rfl) ?_
          refine w_get (C := RX6) (T := TX6) (N := 5) (ci := 6) hx hb hts in_6 hown hc hw 0 0 rfl rfl (by decide) lk_2 rfl dX6_isWord_29 ?_
          refine lv_aload_n hx hb dX6_isWord_32 rfl (lv_at hl 0 rfl) ?_
          refine w_get (C := RX6) (T := TX6) (N := 5) (ci := 6) hx hb hts in_6 hown hc hw 0 4 rfl rfl (by decide) lk_1 rfl dX6_isWord_33 ?_
          refine lv_iload_n hx hb dX6_isWord_36 rfl (lv_at hl 2 rfl) ?_
          refine wn_iadd hx hb dX6_isWord_37 ?_
          refine k_i (wr := [(r0, .inr (6, [.ref t0, .ref d0, .int (nI L), .int (nI ap), .int (nI wp)]))]) (j_V ⟨hx, hb, hml, hown, hts⟩ (c_X8_byteAt l D cI cZ cB cJ b0 adK adV t0 t1 b L (wp + k) (by omega) (by omega) H.size) (cwV 1 hts gX6_isWord_X8_byteAt rfl rfl rfl (by decide +kernel) ⟨by decide, by decide⟩) hc hw [1, 2] rfl rfl 8 1 rfl rfl rfl rfl hl.1 rfl (Nat.le_of_ble_eq_true rfl) dX6_isWord_38 ⟨by decide, by decide⟩) hc hw [1, 2] [0] rfl rfl (by decide) (by decide) (fun r w H locs hq hw => ?_)
          obtain ⟨rfl, rfl⟩ := hq
          have hw : Wd D A s H locs [(r0, .inr (6, [.ref t0, .ref d0, .int (nI L), .int (nI ap), .int (nI wp)])), (t0, .inr (8, [.ref t1, .int (nI L)])), (t1, .inl (cI, 100, .inl (nF b)))] := hw
          refine lv_aload_n hx hb dX6_isWord_41 rfl (lv_at hl 1 rfl) ?_
          refine lv_iload_n hx hb dX6_isWord_42 rfl (lv_at hl 2 rfl) ?_
          refine k_i (wr := [(r0, .inr (6, [.ref t0, .ref d0, .int (nI L), .int (nI ap), .int (nI wp)])), (t0, .inr (8, [.ref t1, .int (nI L)])), (t1, .inl (cI, 100, .inl (nF b)))]) (j_VS ⟨hx, hb, hml, hown, hts⟩ (c_J0_charAt_5068e l D cI cZ cB cJ b0 adK adV i k (by omega) (by assumption) H.size) (cwV 1 hts gX6_isWord_J0_charAt_5068e rfl rfl rfl (by decide +kernel) ⟨by decide, by decide⟩) hc hw [] rfl rfl (am_rec hc hw _ (by omega)) rfl hl.1 rfl (Nat.le_of_ble_eq_true rfl) dX6_isWord_43 ⟨by decide, by decide⟩) hc hw [] [0, 1, 2] rfl rfl (by decide) (by decide) (fun r w H locs hq hw => ?_)
          obtain ⟨rfl, rfl⟩ := hq
          have hw : Wd D A s H locs [(r0, .inr (6, [.ref t0, .ref d0, .int (nI L), .int (nI ap), .int (nI wp)])), (t0, .inr (8, [.ref t1, .int (nI L)])), (t1, .inl (cI, 100, .inl (nF b)))] := hw
          refine wn_top (y := nI (st_n i k)) (st_n_ch i hi k (by assumption)) ?_
          refine wb_icmp_eq (tgt := 51) hx hb (by have := hB (wp + k); omega) (by have := st_n_let i hi k (by assumption); omega) dX6_isWord_46 (by decide) (fun c_3 => ?_) (fun c_3 => ?_)
          · skip
            refine wn_iinc (a := k) (d := 1) (lv' := [(2, .int (nI (k + 1))), (0, .ref r0), (1, .ref (adK i))]) hx hb dX6_isWord_51 hl (k := 2) rfl (by decide) rfl (fun ls hl => ?_)
            refine lv_goto (tgt := 20) hx hb dX6_isWord_54 (by decide) ?_
            exact ih20 (k + 1) (by omega) (by simp [wEq, e1, c_1, c_2, c_3]) (by omega) _ _ _ hw (lv_sub hl [1, 2, 0] rfl)
          · skip
            refine lv_iconst (v := nI 0) hx hb dX6_isWord_49 (by decide) ?_
            subst hQ
            exact r_i hx hb hr rfl hlk hw ⟨(zI_f (isW_f2 (wEq_no c_3 _ (by omega)))), rfl⟩ dX6_isWord_50
    exact key20 (amb_lens.getD i 0 - 0 + 1) 0 (by omega) rfl (Nat.lt_succ_self _) _ _ _ hw (lv_sub hl [1, 2, 0] rfl)
  · skip
    refine lv_iconst (v := nI 0) hx hb dX6_isWord_16 (by decide) ?_
    subst hQ
    exact r_i hx hb hr rfl hlk hw ⟨(zI_f (isW_f1 c_1)), rfl⟩ dX6_isWord_17
