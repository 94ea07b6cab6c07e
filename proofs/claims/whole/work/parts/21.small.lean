theorem zF_0 : (fun _ => 0) = zF (fun _ => false) := rfl
theorem nF_0 : (fun _ => 0) = nF (fun _ => 0) := rfl
def rm_c_X3_init : Room := { frames := 1, cells := 1, slots := 30, locals := 12 }
set_option maxHeartbeats 4000000 in
set_option maxRecDepth 100000 in
theorem c_X3_init (l : Launch) (D : va_G) (cI cZ cB cJ : ClassId) (b0 : Nat) (adK adV : Nat → Nat) (a0 : Nat) : Mv l yX3_init wsX3_init rm_c_X3_init D (TYs cI cZ cB cJ) b0 adK adV [.ref a0] [(a0, .inr (3, [.null, .int (nI 0)]))] (fun w : va_W => ∃ (a1 : Nat), w = [(a0, .inr (3, [.ref a1, .int (nI 0)])), (a1, .inl (cI, 30, .inl (fun _ => 0)))]) 1 30 := by
  refine e_M (Qf := fun A => va_Qv (fun w : va_W => ∃ (a1 : Nat), w = [(a0, .inr (3, [.ref a1, .int (nI 0)])), (a1, .inl (cI, 30, .inl (fun _ => 0)))]) (Bw D A) A) (cc := cX3_init) (maxL := 1) (ret := none) (by decide) rfl (Nat.le_of_ble_eq_true rfl) ?_
  intro p e s m args below meth c ls A Q H locs hx hb hr hml hts hown hlk hnm hc hw hl hQ
  have hl : lv_has ls 1 [(0, .ref a0)] := hl
  have in_3 : ∀ w ∈ u_ws RX3 TX3 2, w ∈ wsX3_init := fun _ h => List.mem_cons_of_mem _ (List.mem_append_right _ h)
  have lk_0 := hts (.methodLink RX3 3 objectInit) (List.mem_of_getElem? (i := 1) rfl)
  have lk_1 := hts (.instanceMethod objectInit) (List.mem_of_getElem? (i := 2) rfl)
  have lk_2 := hts (.arrayClass .int) (List.mem_of_getElem? (i := 4) rfl)
  have lk_3 := hts (.fieldLink RX3 9 "PloughingMatch$Noise" "numbers" "[I") (List.mem_of_getElem? (i := 5) rfl)
  have lk_4 := hts (.fieldLink RX3 15 "PloughingMatch$Noise" "size" "I") (List.mem_of_getElem? (i := 6) rfl)
  refine lv_aload_n hx hb dX3_init_0 rfl (lv_at hl 0 rfl) ?_
  refine W.objInit hx hb hown lk_0 lk_1 (hts _ (List.mem_of_getElem? (i := 3) rfl)) rfl (by rw [hml]; exact hl.1) rfl dX3_init_1 (Nat.le_of_ble_eq_true rfl) (Nat.le_of_ble_eq_true rfl) ?_
  refine W.eq (g2 := F0 m 4 ls []) rfl ?_
  refine lv_aload_n hx hb dX3_init_4 rfl (lv_at hl 0 rfl) ?_
  refine lv_bipush (v := nI 30) hx hb dX3_init_5 (by decide) ?_
  refine va_newa hx hb (atype := .int) lk_2 rfl hc.1 hw.1 hw.2.1 hw.2.2 hc.2.1 (a0 := (30, .inl (fun _ => 0))) (fun cA => rfl) (by decide) (nI_clamp (by decide)) (by decide) (by decide) (by decide) dX3_init_7 (fun a1 cA_1 H hK9 hP hD hS => ?_)
  have cA_1e : cA_1 = cI := Option.some.inj ((hK9.2 4 _ rfl).2.symm.trans (hc.1.2 0 _ rfl).2)
  rw [cA_1e] at hP hD
  have hw : Wd D A s H _ [(a0, .inr (3, [.null, .int (nI 0)])), (a1, .inl (cI, 30, .inl (fun _ => 0)))] := ⟨hP, hD, hS⟩
  refine W.widen (k := 1) (n := 30) (by decide) (by decide) ?_
  refine w_putF (C := RX3) (T := TX3) (N := 2) (ci := 3) (v := .ref a1) (ws1 := [(a0, .inr (3, [.ref a1, .int (nI 0)])), (a1, .inl (cI, 30, .inl (fun _ => 0)))]) hx hb hts in_3 tyX3 tyX3_ok nmX3 hown hc hw 0 0 rfl rfl (by decide) lk_3 rfl hnm rfl rfl rfl (Nat.le_of_ble_eq_true rfl) rfl dX3_init_9 (fun H locs hw => ?_)
  refine lv_aload_n hx hb dX3_init_12 rfl (lv_at hl 0 rfl) ?_
  refine lv_iconst (v := nI 0) hx hb dX3_init_13 (by decide) ?_
  refine w_put (C := RX3) (T := TX3) (N := 2) (ci := 3) (v := .int (nI 0)) (ws1 := [(a0, .inr (3, [.ref a1, .int (nI 0)])), (a1, .inl (cI, 30, .inl (fun _ => 0)))]) hx hb hts in_3 tyX3 tyX3_ok nmX3 hown hc hw 0 1 rfl rfl (by decide) lk_4 rfl rfl rfl (Nat.le_of_ble_eq_true rfl) rfl dX3_init_14 (fun H locs hw => ?_)
  subst hQ
  exact r_v hx hb hr hlk hw ⟨a1, rfl⟩ dX3_init_17
def rm_c_X3_size : Room := { frames := 0, cells := 0, slots := 0, locals := 0 }
set_option maxHeartbeats 4000000 in
set_option maxRecDepth 100000 in
theorem c_X3_size (l : Launch) (D : va_G) (cI cZ cB cJ : ClassId) (b0 : Nat) (adK adV : Nat → Nat) (a0 a1 : Nat) (nz : Nat → Int32) (n : Nat) (hn : n ≤ 30) : Mi l yX3_size wsX3_size rm_c_X3_size D (TYs cI cZ cB cJ) b0 adK adV [.ref a0] [(a0, .inr (3, [.ref a1, .int (nI n)])), (a1, .inl (cI, 30, .inl nz))] (fun (r : Int32) (w : va_W) => r = nI n ∧ w = [(a0, .inr (3, [.ref a1, .int (nI n)])), (a1, .inl (cI, 30, .inl nz))]) 0 0 := by
  refine e_M (Qf := fun A => va_Qi (fun (r : Int32) (w : va_W) => r = nI n ∧ w = [(a0, .inr (3, [.ref a1, .int (nI n)])), (a1, .inl (cI, 30, .inl nz))]) (Bw D A) A) (cc := cX3_size) (maxL := 1) (ret := (some .int)) (by decide) rfl (Nat.le_of_ble_eq_true rfl) ?_
  intro p e s m args below meth c ls A Q H locs hx hb hr hml hts hown hlk hnm hc hw hl hQ
  have hl : lv_has ls 1 [(0, .ref a0)] := hl
  have in_3 : ∀ w ∈ u_ws RX3 TX3 2, w ∈ wsX3_size := fun _ h => List.mem_cons_of_mem _ (List.mem_append_right _ h)
  have lk_0 := hts (.fieldLink RX3 15 "PloughingMatch$Noise" "size" "I") (List.mem_of_getElem? (i := 1) rfl)
  refine lv_aload_n hx hb dX3_size_0 rfl (lv_at hl 0 rfl) ?_
  refine w_get (C := RX3) (T := TX3) (N := 2) (ci := 3) hx hb hts in_3 hown hc hw 0 1 rfl rfl (by decide) lk_0 rfl dX3_size_1 ?_
  subst hQ
  exact r_i hx hb hr rfl hlk hw ⟨rfl, rfl⟩ dX3_size_4
def rm_c_X3_clear : Room := { frames := 0, cells := 0, slots := 0, locals := 0 }
set_option maxHeartbeats 4000000 in
set_option maxRecDepth 100000 in
theorem c_X3_clear (l : Launch) (D : va_G) (cI cZ cB cJ : ClassId) (b0 : Nat) (adK adV : Nat → Nat) (a0 a1 : Nat) (nz : Nat → Int32) (n : Nat) (hn : n ≤ 30) : Mv l yX3_clear wsX3_clear rm_c_X3_clear D (TYs cI cZ cB cJ) b0 adK adV [.ref a0] [(a0, .inr (3, [.ref a1, .int (nI n)])), (a1, .inl (cI, 30, .inl nz))] (fun w : va_W => w = [(a0, .inr (3, [.ref a1, .int (nI 0)])), (a1, .inl (cI, 30, .inl nz))]) 0 0 := by
  refine e_M (Qf := fun A => va_Qv (fun w : va_W => w = [(a0, .inr (3, [.ref a1, .int (nI 0)])), (a1, .inl (cI, 30, .inl nz))]) (Bw D A) A) (cc := cX3_clear) (maxL := 1) (ret := none) (by decide) rfl (Nat.le_of_ble_eq_true rfl) ?_
  intro p e s m args below meth c ls A Q H locs hx hb hr hml hts hown hlk hnm hc hw hl hQ
  have hl : lv_has ls 1 [(0, .ref a0)] := hl
  have in_3 : ∀ w ∈ u_ws RX3 TX3 2, w ∈ wsX3_clear := fun _ h => List.mem_cons_of_mem _ (List.mem_append_right _ h)
  have lk_0 := hts (.fieldLink RX3 15 "PloughingMatch$Noise" "size" "I") (List.mem_of_getElem? (i := 1) rfl)
  refine lv_aload_n hx hb dX3_clear_0 rfl (lv_at hl 0 rfl) ?_
  refine lv_iconst (v := nI 0) hx hb dX3_clear_1 (by decide) ?_
  refine w_put (C := RX3) (T := TX3) (N := 2) (ci := 3) (v := .int (nI 0)) (ws1 := [(a0, .inr (3, [.ref a1, .int (nI 0)])), (a1, .inl (cI, 30, .inl nz))]) hx hb hts in_3 tyX3 tyX3_ok nmX3 hown hc hw 0 1 rfl rfl (by decide) lk_0 rfl rfl rfl (Nat.le_of_ble_eq_true rfl) rfl dX3_clear_2 (fun H locs hw => ?_)
  subst hQ
  exact r_v hx hb hr hlk hw rfl dX3_clear_5
def rm_c_X3_append : Room := { frames := 0, cells := 0, slots := 0, locals := 0 }
set_option maxHeartbeats 4000000 in
set_option maxRecDepth 100000 in
theorem c_X3_append (l : Launch) (D : va_G) (cI cZ cB cJ : ClassId) (b0 : Nat) (adK adV : Nat → Nat) (a0 a1 : Nat) (nz : Nat → Int32) (n : Nat) (v : Int32) (hn : n < 30) : Mi l yX3_append wsX3_append rm_c_X3_append D (TYs cI cZ cB cJ) b0 adK adV [.ref a0, .int v] [(a0, .inr (3, [.ref a1, .int (nI n)])), (a1, .inl (cI, 30, .inl nz))] (fun (r : Int32) (w : va_W) => r = nI (n + 1) ∧ w = [(a0, .inr (3, [.ref a1, .int (nI (n + 1))])), (a1, .inl (cI, 30, .inl (upd nz n v)))]) 0 0 := by
  refine e_M (Qf := fun A => va_Qi (fun (r : Int32) (w : va_W) => r = nI (n + 1) ∧ w = [(a0, .inr (3, [.ref a1, .int (nI (n + 1))])), (a1, .inl (cI, 30, .inl (upd nz n v)))]) (Bw D A) A) (cc := cX3_append) (maxL := 2) (ret := (some .int)) (by decide) rfl (Nat.le_of_ble_eq_true rfl) ?_
  intro p e s m args below meth c ls A Q H locs hx hb hr hml hts hown hlk hnm hc hw hl hQ
  have hl : lv_has ls 2 [(0, .ref a0), (1, .int v)] := hl
  have in_3 : ∀ w ∈ u_ws RX3 TX3 2, w ∈ wsX3_append := fun _ h => List.mem_cons_of_mem _ (List.mem_append_right _ h)
  have lk_0 := hts (.fieldLink RX3 15 "PloughingMatch$Noise" "size" "I") (List.mem_of_getElem? (i := 1) rfl)
  have lk_1 := hts (.fieldLink RX3 9 "PloughingMatch$Noise" "numbers" "[I") (List.mem_of_getElem? (i := 2) rfl)
  refine lv_aload_n hx hb dX3_append_0 rfl (lv_at hl 0 rfl) ?_
  refine w_get (C := RX3) (T := TX3) (N := 2) (ci := 3) hx hb hts in_3 hown hc hw 0 1 rfl rfl (by decide) lk_0 rfl dX3_append_1 ?_
  refine lv_bipush (v := nI 30) hx hb dX3_append_4 (by decide) ?_
  refine wb_icmp_lt (tgt := 11) hx hb (by omega) (by omega) dX3_append_6 (by decide) (fun c_1 => ?_) (fun c_1 => ?_)
  · skip
    refine lv_aload_n hx hb dX3_append_11 rfl (lv_at hl 0 rfl) ?_
    refine w_get (C := RX3) (T := TX3) (N := 2) (ci := 3) hx hb hts in_3 hown hc hw 0 0 rfl rfl (by decide) lk_1 rfl dX3_append_12 ?_
    refine lv_aload_n hx hb dX3_append_15 rfl (lv_at hl 0 rfl) ?_
    refine w_get (C := RX3) (T := TX3) (N := 2) (ci := 3) hx hb hts in_3 hown hc hw 0 1 rfl rfl (by decide) lk_0 rfl dX3_append_16 ?_
    refine lv_iload_n hx hb dX3_append_19 rfl (lv_at hl 1 rfl) ?_
    refine w_iast (ws1 := [(a0, .inr (3, [.ref a1, .int (nI n)])), (a1, .inl (cI, 30, .inl (upd nz n v)))]) hx hb hc hw 1 rfl rfl (i := n) (by omega) (by decide) rfl dX3_append_20 (fun H locs hw => ?_)
    refine lv_aload_n hx hb dX3_append_21 rfl (lv_at hl 0 rfl) ?_
    refine lv_dup hx hb dX3_append_22 rfl ?_
    refine w_get (C := RX3) (T := TX3) (N := 2) (ci := 3) hx hb hts in_3 hown hc hw 0 1 rfl rfl (by decide) lk_0 rfl dX3_append_23 ?_
    refine lv_iconst (v := nI 1) hx hb dX3_append_26 (by decide) ?_
    refine wn_iadd hx hb dX3_append_27 ?_
    refine w_put (C := RX3) (T := TX3) (N := 2) (ci := 3) (v := .int (nI (n + 1))) (ws1 := [(a0, .inr (3, [.ref a1, .int (nI (n + 1))])), (a1, .inl (cI, 30, .inl (upd nz n v)))]) hx hb hts in_3 tyX3 tyX3_ok nmX3 hown hc hw 0 1 rfl rfl (by decide) lk_0 rfl rfl rfl (Nat.le_of_ble_eq_true rfl) rfl dX3_append_28 (fun H locs hw => ?_)
    refine lv_aload_n hx hb dX3_append_31 rfl (lv_at hl 0 rfl) ?_
    refine w_get (C := RX3) (T := TX3) (N := 2) (ci := 3) hx hb hts in_3 hown hc hw 0 1 rfl rfl (by decide) lk_0 rfl dX3_append_32 ?_
    subst hQ
    exact r_i hx hb hr rfl hlk hw ⟨rfl, rfl⟩ dX3_append_35
  · exact (by omega)
def rm_c_X3_append_full : Room := { frames := 0, cells := 0, slots := 0, locals := 0 }
set_option maxHeartbeats 4000000 in
set_option maxRecDepth 100000 in
theorem c_X3_append_full (l : Launch) (D : va_G) (cI cZ cB cJ : ClassId) (b0 : Nat) (adK adV : Nat → Nat) (a0 a1 : Nat) (nz : Nat → Int32) (n : Nat) (v : Int32) (hn : n = 30) : Mi l yX3_append wsX3_append rm_c_X3_append_full D (TYs cI cZ cB cJ) b0 adK adV [.ref a0, .int v] [(a0, .inr (3, [.ref a1, .int (nI n)])), (a1, .inl (cI, 30, .inl nz))] (fun (r : Int32) (w : va_W) => r = (-1) ∧ w = [(a0, .inr (3, [.ref a1, .int (nI n)])), (a1, .inl (cI, 30, .inl nz))]) 0 0 := by
  refine e_M (Qf := fun A => va_Qi (fun (r : Int32) (w : va_W) => r = (-1) ∧ w = [(a0, .inr (3, [.ref a1, .int (nI n)])), (a1, .inl (cI, 30, .inl nz))]) (Bw D A) A) (cc := cX3_append) (maxL := 2) (ret := (some .int)) (by decide) rfl (Nat.le_of_ble_eq_true rfl) ?_
  intro p e s m args below meth c ls A Q H locs hx hb hr hml hts hown hlk hnm hc hw hl hQ
  have hl : lv_has ls 2 [(0, .ref a0), (1, .int v)] := hl
  have in_3 : ∀ w ∈ u_ws RX3 TX3 2, w ∈ wsX3_append := fun _ h => List.mem_cons_of_mem _ (List.mem_append_right _ h)
  have lk_0 := hts (.fieldLink RX3 15 "PloughingMatch$Noise" "size" "I") (List.mem_of_getElem? (i := 1) rfl)
  refine lv_aload_n hx hb dX3_append_0 rfl (lv_at hl 0 rfl) ?_
  refine w_get (C := RX3) (T := TX3) (N := 2) (ci := 3) hx hb hts in_3 hown hc hw 0 1 rfl rfl (by decide) lk_0 rfl dX3_append_1 ?_
  refine lv_bipush (v := nI 30) hx hb dX3_append_4 (by decide) ?_
  refine wb_icmp_lt (tgt := 11) hx hb (by omega) (by omega) dX3_append_6 (by decide) (fun c_1 => ?_) (fun c_1 => ?_)
  · exact (by omega)
  · skip
    refine lv_iconst (v := (-1)) hx hb dX3_append_9 (by decide) ?_
    subst hQ
    exact r_i hx hb hr rfl hlk hw ⟨rfl, rfl⟩ dX3_append_10
def rm_c_X3_remainder : Room := { frames := 1, cells := 0, slots := 0, locals := 21 }
set_option maxHeartbeats 4000000 in
set_option maxRecDepth 100000 in
theorem c_X3_remainder (l : Launch) (D : va_G) (cI cZ cB cJ : ClassId) (b0 : Nat) (adK adV : Nat → Nat) (a0 a1 : Nat) (nz : Nat → Int32) (n : Nat) (k : Nat) (d : Nat) (hn : n ≤ 30) (hk : k < n) (h0 : 0 < d) (hd : d ≤ 100) : Mi l yX3_remainder wsX3_remainder rm_c_X3_remainder D (TYs cI cZ cB cJ) b0 adK adV [.ref a0, .int (nI k), .int (nI d)] [(a0, .inr (3, [.ref a1, .int (nI n)])), (a1, .inl (cI, 30, .inl nz))] (fun (r : Int32) (w : va_W) => r = nI (ns_rem (nz k) d) ∧ w = [(a0, .inr (3, [.ref a1, .int (nI n)])), (a1, .inl (cI, 30, .inl nz))]) 0 0 := by
  refine e_M (Qf := fun A => va_Qi (fun (r : Int32) (w : va_W) => r = nI (ns_rem (nz k) d) ∧ w = [(a0, .inr (3, [.ref a1, .int (nI n)])), (a1, .inl (cI, 30, .inl nz))]) (Bw D A) A) (cc := cX3_remainder) (maxL := 3) (ret := (some .int)) (by decide) rfl (Nat.le_of_ble_eq_true rfl) ?_
  intro p e s m args below meth c ls A Q H locs hx hb hr hml hts hown hlk hnm hc hw hl hQ
  have hl : lv_has ls 3 [(0, .ref a0), (1, .int (nI k)), (2, .int (nI d))] := hl
  have in_3 : ∀ w ∈ u_ws RX3 TX3 2, w ∈ wsX3_remainder := fun _ h => List.mem_cons_of_mem _ (List.mem_append_right _ h)
  have lk_0 := hts (.fieldLink RX3 15 "PloughingMatch$Noise" "size" "I") (List.mem_of_getElem? (i := 1) rfl)
  have lk_1 := hts (.initialized RX9) (List.mem_of_getElem? (i := 5) rfl)
  have lk_2 := hts (.static yX9_isBelow) (List.mem_of_getElem? (i := 4) rfl)
  have lk_3 := hts (.fieldLink RX3 9 "PloughingMatch$Noise" "numbers" "[I") (List.mem_of_getElem? (i := 2) rfl)
  have lk_4 := hts (.constantLong RX3 23 (4294967295)) (List.mem_of_getElem? (i := 3) rfl)
  refine lv_iload_n hx hb dX3_remainder_0 rfl (lv_at hl 1 rfl) ?_
  refine lv_aload_n hx hb dX3_remainder_1 rfl (lv_at hl 0 rfl) ?_
  refine w_get (C := RX3) (T := TX3) (N := 2) (ci := 3) hx hb hts in_3 hown hc hw 0 1 rfl rfl (by decide) lk_0 rfl dX3_remainder_2 ?_
  refine k_i (wr := [(a0, .inr (3, [.ref a1, .int (nI n)])), (a1, .inl (cI, 30, .inl nz))]) (j_SN ⟨hx, hb, hml, hown, hts⟩ (c_X9_isBelow l D cI cZ cB cJ b0 adK adV (nI k) (nI n) H.size) ⟨(va_cnB 2 hts gX3_remainder_X9_isBelow_n19 rfl rfl rfl (hc.2.2.2.2.1 _ (List.mem_of_getElem? (i := 6) rfl)) lk_1 (by decide +kernel) ⟨by decide, by decide⟩), lk_2, trivial⟩ hc hw [] rfl rfl rfl hl.1 rfl (Nat.le_of_ble_eq_true rfl) dX3_remainder_5 ⟨by decide, by decide⟩) hc hw [] [0, 1] rfl rfl (by decide) (by decide) (fun r w H locs hq hw => ?_)
  obtain ⟨rfl, rfl⟩ := hq
  have hw : Wd D A s H locs [(a0, .inr (3, [.ref a1, .int (nI n)])), (a1, .inl (cI, 30, .inl nz))] := hw
  refine wz_if_eq (tgt := 16) hx hb dX3_remainder_8 (by decide) (fun c_1 => ?_) (fun c_1 => ?_)
  · exact (by rw [isB_nat (by omega) (by omega)] at c_1; simp at c_1; omega)
  · skip
    refine lv_iload_n hx hb dX3_remainder_11 rfl (lv_at hl 2 rfl) ?_
    refine lv_iconst (v := nI 1) hx hb dX3_remainder_12 (by decide) ?_
    refine wb_icmp_ge (tgt := 18) hx hb (by omega) (by omega) dX3_remainder_13 (by decide) (fun c_2 => ?_) (fun c_2 => ?_)
    · skip
      refine lv_aload_n hx hb dX3_remainder_18 rfl (lv_at hl 0 rfl) ?_
      refine w_get (C := RX3) (T := TX3) (N := 2) (ci := 3) hx hb hts in_3 hown hc hw 0 0 rfl rfl (by decide) lk_3 rfl dX3_remainder_19 ?_
      refine lv_iload_n hx hb dX3_remainder_22 rfl (lv_at hl 1 rfl) ?_
      refine w_iald hx hb hc hw 1 rfl rfl (i := k) (by omega) (by decide) dX3_remainder_23 ?_
      refine lv_i2l (v := (nz k).toInt64) hx hb dX3_remainder_24 rfl ?_
      refine lv_ldc2 (v := (4294967295)) hx hb hown lk_4 dX3_remainder_25 ?_
      refine lv_land hx hb dX3_remainder_28 ?_
      refine lv_iload_n hx hb dX3_remainder_29 rfl (lv_at hl 2 rfl) ?_
      refine lv_i2l (v := (nI d).toInt64) hx hb dX3_remainder_30 rfl ?_
      refine lv_lrem hx hb dX3_remainder_31 (ns_ne0 h0 (by omega)) ?_
      refine lv_l2i (v := ((((nz k).toInt64) &&& (4294967295)) - (((nz k).toInt64) &&& (4294967295)) / ((nI d).toInt64) * ((nI d).toInt64)).toInt32) hx hb dX3_remainder_32 rfl ?_
      refine wn_top (y := nI (ns_rem (nz k) d)) (ns_rem_eq (nz k) h0 (by omega)) ?_
      subst hQ
      exact r_i hx hb hr rfl hlk hw ⟨rfl, rfl⟩ dX3_remainder_33
    · exact (by omega)
def rm_c_X8_init : Room := { frames := 1, cells := 1, slots := 100, locals := 12 }
set_option maxHeartbeats 4000000 in
set_option maxRecDepth 100000 in
theorem c_X8_init (l : Launch) (D : va_G) (cI cZ cB cJ : ClassId) (b0 : Nat) (adK adV : Nat → Nat) (a0 : Nat) : Mv l yX8_init wsX8_init rm_c_X8_init D (TYs cI cZ cB cJ) b0 adK adV [.ref a0] [(a0, .inr (8, [.null, .int (nI 0)]))] (fun w : va_W => ∃ (a1 : Nat), w = [(a0, .inr (8, [.ref a1, .int (nI 0)])), (a1, .inl (cI, 100, .inl (nF (fun _ => 0))))]) 1 100 := by
  refine e_M (Qf := fun A => va_Qv (fun w : va_W => ∃ (a1 : Nat), w = [(a0, .inr (8, [.ref a1, .int (nI 0)])), (a1, .inl (cI, 100, .inl (nF (fun _ => 0))))]) (Bw D A) A) (cc := cX8_init) (maxL := 1) (ret := none) (by decide) rfl (Nat.le_of_ble_eq_true rfl) ?_
  intro p e s m args below meth c ls A Q H locs hx hb hr hml hts hown hlk hnm hc hw hl hQ
  have hl : lv_has ls 1 [(0, .ref a0)] := hl
  have in_8 : ∀ w ∈ u_ws RX8 TX8 2, w ∈ wsX8_init := fun _ h => List.mem_cons_of_mem _ (List.mem_append_right _ h)
  have lk_0 := hts (.methodLink RX8 3 objectInit) (List.mem_of_getElem? (i := 1) rfl)
  have lk_1 := hts (.instanceMethod objectInit) (List.mem_of_getElem? (i := 2) rfl)
  have lk_2 := hts (.arrayClass .int) (List.mem_of_getElem? (i := 4) rfl)
  have lk_3 := hts (.fieldLink RX8 9 "PloughingMatch$Tape" "bytes" "[I") (List.mem_of_getElem? (i := 5) rfl)
  have lk_4 := hts (.fieldLink RX8 15 "PloughingMatch$Tape" "size" "I") (List.mem_of_getElem? (i := 6) rfl)
  refine lv_aload_n hx hb dX8_init_0 rfl (lv_at hl 0 rfl) ?_
  refine W.objInit hx hb hown lk_0 lk_1 (hts _ (List.mem_of_getElem? (i := 3) rfl)) rfl (by rw [hml]; exact hl.1) rfl dX8_init_1 (Nat.le_of_ble_eq_true rfl) (Nat.le_of_ble_eq_true rfl) ?_
  refine W.eq (g2 := F0 m 4 ls []) rfl ?_
  refine lv_aload_n hx hb dX8_init_4 rfl (lv_at hl 0 rfl) ?_
  refine lv_bipush (v := nI 100) hx hb dX8_init_5 (by decide) ?_
  refine va_newa hx hb (atype := .int) lk_2 rfl hc.1 hw.1 hw.2.1 hw.2.2 hc.2.1 (a0 := (100, .inl (fun _ => 0))) (fun cA => rfl) (by decide) (nI_clamp (by decide)) (by decide) (by decide) (by decide) dX8_init_7 (fun a1 cA_1 H hK9 hP hD hS => ?_)
  have cA_1e : cA_1 = cI := Option.some.inj ((hK9.2 4 _ rfl).2.symm.trans (hc.1.2 0 _ rfl).2)
  rw [cA_1e] at hP hD
  have hw : Wd D A s H _ [(a0, .inr (8, [.null, .int (nI 0)])), (a1, .inl (cI, 100, .inl (fun _ => 0)))] := ⟨hP, hD, hS⟩
  refine W.widen (k := 1) (n := 100) (by decide) (by decide) ?_
  refine w_putF (C := RX8) (T := TX8) (N := 2) (ci := 8) (v := .ref a1) (ws1 := [(a0, .inr (8, [.ref a1, .int (nI 0)])), (a1, .inl (cI, 100, .inl (fun _ => 0)))]) hx hb hts in_8 tyX8 tyX8_ok nmX8 hown hc hw 0 0 rfl rfl (by decide) lk_3 rfl hnm rfl rfl rfl (Nat.le_of_ble_eq_true rfl) rfl dX8_init_9 (fun H locs hw => ?_)
  refine lv_aload_n hx hb dX8_init_12 rfl (lv_at hl 0 rfl) ?_
  refine lv_iconst (v := nI 0) hx hb dX8_init_13 (by decide) ?_
  refine w_put (C := RX8) (T := TX8) (N := 2) (ci := 8) (v := .int (nI 0)) (ws1 := [(a0, .inr (8, [.ref a1, .int (nI 0)])), (a1, .inl (cI, 100, .inl (fun _ => 0)))]) hx hb hts in_8 tyX8 tyX8_ok nmX8 hown hc hw 0 1 rfl rfl (by decide) lk_4 rfl rfl rfl (Nat.le_of_ble_eq_true rfl) rfl dX8_init_14 (fun H locs hw => ?_)
  subst hQ
  exact r_v hx hb hr hlk hw ⟨a1, rfl⟩ dX8_init_17
def rm_c_X8_size : Room := { frames := 0, cells := 0, slots := 0, locals := 0 }
set_option maxHeartbeats 4000000 in
set_option maxRecDepth 100000 in
theorem c_X8_size (l : Launch) (D : va_G) (cI cZ cB cJ : ClassId) (b0 : Nat) (adK adV : Nat → Nat) (a0 a1 : Nat) (bt : Nat → Nat) (n : Nat) (hn : n ≤ 100) : Mi l yX8_size wsX8_size rm_c_X8_size D (TYs cI cZ cB cJ) b0 adK adV [.ref a0] [(a0, .inr (8, [.ref a1, .int (nI n)])), (a1, .inl (cI, 100, .inl (nF bt)))] (fun (r : Int32) (w : va_W) => r = nI n ∧ w = [(a0, .inr (8, [.ref a1, .int (nI n)])), (a1, .inl (cI, 100, .inl (nF bt)))]) 0 0 := by
  refine e_M (Qf := fun A => va_Qi (fun (r : Int32) (w : va_W) => r = nI n ∧ w = [(a0, .inr (8, [.ref a1, .int (nI n)])), (a1, .inl (cI, 100, .inl (nF bt)))]) (Bw D A) A) (cc := cX8_size) (maxL := 1) (ret := (some .int)) (by decide) rfl (Nat.le_of_ble_eq_true rfl) ?_
  intro p e s m args below meth c ls A Q H locs hx hb hr hml hts hown hlk hnm hc hw hl hQ
  have hl : lv_has ls 1 [(0, .ref a0)] := hl
  have in_8 : ∀ w ∈ u_ws RX8 TX8 2, w ∈ wsX8_size := fun _ h => List.mem_cons_of_mem _ (List.mem_append_right _ h)
  have lk_0 := hts (.fieldLink RX8 15 "PloughingMatch$Tape" "size" "I") (List.mem_of_getElem? (i := 1) rfl)
  refine lv_aload_n hx hb dX8_size_0 rfl (lv_at hl 0 rfl) ?_
  refine w_get (C := RX8) (T := TX8) (N := 2) (ci := 8) hx hb hts in_8 hown hc hw 0 1 rfl rfl (by decide) lk_0 rfl dX8_size_1 ?_
  subst hQ
  exact r_i hx hb hr rfl hlk hw ⟨rfl, rfl⟩ dX8_size_4
def rm_c_X8_hasRoom : Room := { frames := 0, cells := 0, slots := 0, locals := 0 }
set_option maxHeartbeats 4000000 in
set_option maxRecDepth 100000 in
theorem c_X8_hasRoom (l : Launch) (D : va_G) (cI cZ cB cJ : ClassId) (b0 : Nat) (adK adV : Nat → Nat) (a0 a1 : Nat) (bt : Nat → Nat) (n : Nat) (hn : n ≤ 100) : Mi l yX8_hasRoom wsX8_hasRoom rm_c_X8_hasRoom D (TYs cI cZ cB cJ) b0 adK adV [.ref a0] [(a0, .inr (8, [.ref a1, .int (nI n)])), (a1, .inl (cI, 100, .inl (nF bt)))] (fun (r : Int32) (w : va_W) => r = zI (decide (n + 20 ≤ 100)) ∧ w = [(a0, .inr (8, [.ref a1, .int (nI n)])), (a1, .inl (cI, 100, .inl (nF bt)))]) 0 0 := by
  refine e_M (Qf := fun A => va_Qi (fun (r : Int32) (w : va_W) => r = zI (decide (n + 20 ≤ 100)) ∧ w = [(a0, .inr (8, [.ref a1, .int (nI n)])), (a1, .inl (cI, 100, .inl (nF bt)))]) (Bw D A) A) (cc := cX8_hasRoom) (maxL := 1) (ret := (some .boolean)) (by decide) rfl (Nat.le_of_ble_eq_true rfl) ?_
  intro p e s m args below meth c ls A Q H locs hx hb hr hml hts hown hlk hnm hc hw hl hQ
  have hl : lv_has ls 1 [(0, .ref a0)] := hl
  have in_8 : ∀ w ∈ u_ws RX8 TX8 2, w ∈ wsX8_hasRoom := fun _ h => List.mem_cons_of_mem _ (List.mem_append_right _ h)
  have lk_0 := hts (.fieldLink RX8 15 "PloughingMatch$Tape" "size" "I") (List.mem_of_getElem? (i := 1) rfl)
  refine lv_aload_n hx hb dX8_hasRoom_0 rfl (lv_at hl 0 rfl) ?_
  refine w_get (C := RX8) (T := TX8) (N := 2) (ci := 8) hx hb hts in_8 hown hc hw 0 1 rfl rfl (by decide) lk_0 rfl dX8_hasRoom_1 ?_
  refine lv_bipush (v := nI 20) hx hb dX8_hasRoom_4 (by decide) ?_
  refine wn_iadd hx hb dX8_hasRoom_6 ?_
  refine lv_bipush (v := nI 100) hx hb dX8_hasRoom_7 (by decide) ?_
  refine wb_icmp_gt (tgt := 16) hx hb (by omega) (by omega) dX8_hasRoom_9 (by decide) (fun c_1 => ?_) (fun c_1 => ?_)
  · skip
    refine lv_iconst (v := nI 0) hx hb dX8_hasRoom_16 (by decide) ?_
    subst hQ
    exact r_i hx hb hr rfl hlk hw ⟨(zI_f (decide_eq_false (by omega))), rfl⟩ dX8_hasRoom_17
  · skip
    refine lv_iconst (v := nI 1) hx hb dX8_hasRoom_12 (by decide) ?_
    refine lv_goto (tgt := 17) hx hb dX8_hasRoom_13 (by decide) ?_
    subst hQ
    exact r_i hx hb hr rfl hlk hw ⟨(zI_t (decide_eq_true (by omega))), rfl⟩ dX8_hasRoom_17
def rm_c_X8_byteAt : Room := { frames := 0, cells := 0, slots := 0, locals := 0 }
set_option maxHeartbeats 4000000 in
set_option maxRecDepth 100000 in
theorem c_X8_byteAt (l : Launch) (D : va_G) (cI cZ cB cJ : ClassId) (b0 : Nat) (adK adV : Nat → Nat) (a0 a1 : Nat) (bt : Nat → Nat) (n : Nat) (k : Nat) (hn : n ≤ 100) (hk : k < n) : Mi l yX8_byteAt wsX8_byteAt rm_c_X8_byteAt D (TYs cI cZ cB cJ) b0 adK adV [.ref a0, .int (nI k)] [(a0, .inr (8, [.ref a1, .int (nI n)])), (a1, .inl (cI, 100, .inl (nF bt)))] (fun (r : Int32) (w : va_W) => r = nI (bt k) ∧ w = [(a0, .inr (8, [.ref a1, .int (nI n)])), (a1, .inl (cI, 100, .inl (nF bt)))]) 0 0 := by
  refine e_M (Qf := fun A => va_Qi (fun (r : Int32) (w : va_W) => r = nI (bt k) ∧ w = [(a0, .inr (8, [.ref a1, .int (nI n)])), (a1, .inl (cI, 100, .inl (nF bt)))]) (Bw D A) A) (cc := cX8_byteAt) (maxL := 2) (ret := (some .int)) (by decide) rfl (Nat.le_of_ble_eq_true rfl) ?_
  intro p e s m args below meth c ls A Q H locs hx hb hr hml hts hown hlk hnm hc hw hl hQ
  have hl : lv_has ls 2 [(0, .ref a0), (1, .int (nI k))] := hl
  have in_8 : ∀ w ∈ u_ws RX8 TX8 2, w ∈ wsX8_byteAt := fun _ h => List.mem_cons_of_mem _ (List.mem_append_right _ h)
  have lk_0 := hts (.fieldLink RX8 15 "PloughingMatch$Tape" "size" "I") (List.mem_of_getElem? (i := 1) rfl)
  have lk_1 := hts (.fieldLink RX8 9 "PloughingMatch$Tape" "bytes" "[I") (List.mem_of_getElem? (i := 2) rfl)
  refine lv_iload_n hx hb dX8_byteAt_0 rfl (lv_at hl 1 rfl) ?_
  refine wb_if_lt (tgt := 21) hx hb (by omega) dX8_byteAt_1 (by decide) ?_
  refine lv_iload_n hx hb dX8_byteAt_4 rfl (lv_at hl 1 rfl) ?_
  refine lv_aload_n hx hb dX8_byteAt_5 rfl (lv_at hl 0 rfl) ?_
  refine w_get (C := RX8) (T := TX8) (N := 2) (ci := 8) hx hb hts in_8 hown hc hw 0 1 rfl rfl (by decide) lk_0 rfl dX8_byteAt_6 ?_
  refine wb_icmp_ge (tgt := 21) hx hb (by omega) (by omega) dX8_byteAt_9 (by decide) (fun c_2 => ?_) (fun c_2 => ?_)
  · exact (by omega)
  · skip
    refine lv_aload_n hx hb dX8_byteAt_12 rfl (lv_at hl 0 rfl) ?_
    refine w_get (C := RX8) (T := TX8) (N := 2) (ci := 8) hx hb hts in_8 hown hc hw 0 0 rfl rfl (by decide) lk_1 rfl dX8_byteAt_13 ?_
    refine lv_iload_n hx hb dX8_byteAt_16 rfl (lv_at hl 1 rfl) ?_
    refine w_iald hx hb hc hw 1 rfl rfl (i := k) (by omega) (by decide) dX8_byteAt_17 ?_
    refine wn_top (y := nI (bt k)) rfl ?_
    refine lv_goto (tgt := 22) hx hb dX8_byteAt_18 (by decide) ?_
    subst hQ
    exact r_i hx hb hr rfl hlk hw ⟨rfl, rfl⟩ dX8_byteAt_22
def rm_c_X8_byteAt_out : Room := { frames := 0, cells := 0, slots := 0, locals := 0 }
set_option maxHeartbeats 4000000 in
set_option maxRecDepth 100000 in
theorem c_X8_byteAt_out (l : Launch) (D : va_G) (cI cZ cB cJ : ClassId) (b0 : Nat) (adK adV : Nat → Nat) (a0 a1 : Nat) (bt : Nat → Nat) (n : Nat) (k : Nat) (hn : n ≤ 100) (hk : n ≤ k) (hk2 : k < 2 ^ 31) : Mi l yX8_byteAt wsX8_byteAt rm_c_X8_byteAt_out D (TYs cI cZ cB cJ) b0 adK adV [.ref a0, .int (nI k)] [(a0, .inr (8, [.ref a1, .int (nI n)])), (a1, .inl (cI, 100, .inl (nF bt)))] (fun (r : Int32) (w : va_W) => r = (-1) ∧ w = [(a0, .inr (8, [.ref a1, .int (nI n)])), (a1, .inl (cI, 100, .inl (nF bt)))]) 0 0 := by
  refine e_M (Qf := fun A => va_Qi (fun (r : Int32) (w : va_W) => r = (-1) ∧ w = [(a0, .inr (8, [.ref a1, .int (nI n)])), (a1, .inl (cI, 100, .inl (nF bt)))]) (Bw D A) A) (cc := cX8_byteAt) (maxL := 2) (ret := (some .int)) (by decide) rfl (Nat.le_of_ble_eq_true rfl) ?_
  intro p e s m args below meth c ls A Q H locs hx hb hr hml hts hown hlk hnm hc hw hl hQ
  have hl : lv_has ls 2 [(0, .ref a0), (1, .int (nI k))] := hl
  have in_8 : ∀ w ∈ u_ws RX8 TX8 2, w ∈ wsX8_byteAt := fun _ h => List.mem_cons_of_mem _ (List.mem_append_right _ h)
  have lk_0 := hts (.fieldLink RX8 15 "PloughingMatch$Tape" "size" "I") (List.mem_of_getElem? (i := 1) rfl)
  refine lv_iload_n hx hb dX8_byteAt_0 rfl (lv_at hl 1 rfl) ?_
  refine wb_if_lt (tgt := 21) hx hb (by omega) dX8_byteAt_1 (by decide) ?_
  refine lv_iload_n hx hb dX8_byteAt_4 rfl (lv_at hl 1 rfl) ?_
  refine lv_aload_n hx hb dX8_byteAt_5 rfl (lv_at hl 0 rfl) ?_
  refine w_get (C := RX8) (T := TX8) (N := 2) (ci := 8) hx hb hts in_8 hown hc hw 0 1 rfl rfl (by decide) lk_0 rfl dX8_byteAt_6 ?_
  refine wb_icmp_ge (tgt := 21) hx hb (by omega) (by omega) dX8_byteAt_9 (by decide) (fun c_2 => ?_) (fun c_2 => ?_)
  · skip
    refine lv_iconst (v := (-1)) hx hb dX8_byteAt_21 (by decide) ?_
    subst hQ
    exact r_i hx hb hr rfl hlk hw ⟨rfl, rfl⟩ dX8_byteAt_22
  · exact (by omega)
def rm_c_X8_cut : Room := { frames := 0, cells := 0, slots := 0, locals := 0 }
set_option maxHeartbeats 4000000 in
set_option maxRecDepth 100000 in
theorem c_X8_cut (l : Launch) (D : va_G) (cI cZ cB cJ : ClassId) (b0 : Nat) (adK adV : Nat → Nat) (a0 a1 : Nat) (bt : Nat → Nat) (n : Nat) (k : Nat) (hn : n ≤ 100) (hk : k ≤ n) : Mv l yX8_cut wsX8_cut rm_c_X8_cut D (TYs cI cZ cB cJ) b0 adK adV [.ref a0, .int (nI k)] [(a0, .inr (8, [.ref a1, .int (nI n)])), (a1, .inl (cI, 100, .inl (nF bt)))] (fun w : va_W => w = [(a0, .inr (8, [.ref a1, .int (nI k)])), (a1, .inl (cI, 100, .inl (nF bt)))]) 0 0 := by
  refine e_M (Qf := fun A => va_Qv (fun w : va_W => w = [(a0, .inr (8, [.ref a1, .int (nI k)])), (a1, .inl (cI, 100, .inl (nF bt)))]) (Bw D A) A) (cc := cX8_cut) (maxL := 2) (ret := none) (by decide) rfl (Nat.le_of_ble_eq_true rfl) ?_
  intro p e s m args below meth c ls A Q H locs hx hb hr hml hts hown hlk hnm hc hw hl hQ
  have hl : lv_has ls 2 [(0, .ref a0), (1, .int (nI k))] := hl
  have in_8 : ∀ w ∈ u_ws RX8 TX8 2, w ∈ wsX8_cut := fun _ h => List.mem_cons_of_mem _ (List.mem_append_right _ h)
  have lk_0 := hts (.fieldLink RX8 15 "PloughingMatch$Tape" "size" "I") (List.mem_of_getElem? (i := 1) rfl)
  refine lv_iload_n hx hb dX8_cut_0 rfl (lv_at hl 1 rfl) ?_
  refine wb_if_lt (tgt := 17) hx hb (by omega) dX8_cut_1 (by decide) ?_
  refine lv_iload_n hx hb dX8_cut_4 rfl (lv_at hl 1 rfl) ?_
  refine lv_aload_n hx hb dX8_cut_5 rfl (lv_at hl 0 rfl) ?_
  refine w_get (C := RX8) (T := TX8) (N := 2) (ci := 8) hx hb hts in_8 hown hc hw 0 1 rfl rfl (by decide) lk_0 rfl dX8_cut_6 ?_
  refine wb_icmp_ge (tgt := 17) hx hb (by omega) (by omega) dX8_cut_9 (by decide) (fun c_2 => ?_) (fun c_2 => ?_)
  · skip
    subst hQ
    exact r_v hx hb hr hlk hw (by first | rfl | rw [show n = k by omega]) dX8_cut_17
  · skip
    refine lv_aload_n hx hb dX8_cut_12 rfl (lv_at hl 0 rfl) ?_
    refine lv_iload_n hx hb dX8_cut_13 rfl (lv_at hl 1 rfl) ?_
    refine w_put (C := RX8) (T := TX8) (N := 2) (ci := 8) (v := .int (nI k)) (ws1 := [(a0, .inr (8, [.ref a1, .int (nI k)])), (a1, .inl (cI, 100, .inl (nF bt)))]) hx hb hts in_8 tyX8 tyX8_ok nmX8 hown hc hw 0 1 rfl rfl (by decide) lk_0 rfl rfl rfl (Nat.le_of_ble_eq_true rfl) rfl dX8_cut_14 (fun H locs hw => ?_)
    subst hQ
    exact r_v hx hb hr hlk hw (by first | rfl | rw [show n = k by omega]) dX8_cut_17
def rm_c_X2_init : Room := { frames := 1, cells := 2, slots := 12, locals := 12 }
set_option maxHeartbeats 4000000 in
set_option maxRecDepth 100000 in
theorem c_X2_init (l : Launch) (D : va_G) (cI cZ cB cJ : ClassId) (b0 : Nat) (adK adV : Nat → Nat) (a0 : Nat) : Mv l yX2_init wsX2_init rm_c_X2_init D (TYs cI cZ cB cJ) b0 adK adV [.ref a0] [(a0, .inr (2, [.null, .null, .int (nI 0)]))] (fun w : va_W => ∃ (a1 : Nat) (a2 : Nat), w = [(a0, .inr (2, [.ref a1, .ref a2, .int (nI 0)])), (a1, .inl (cI, 6, .inl (nF (fun _ => 0)))), (a2, .inl (cZ, 6, .inl (zF (fun _ => false))))]) 2 12 := by
  refine e_M (Qf := fun A => va_Qv (fun w : va_W => ∃ (a1 : Nat) (a2 : Nat), w = [(a0, .inr (2, [.ref a1, .ref a2, .int (nI 0)])), (a1, .inl (cI, 6, .inl (nF (fun _ => 0)))), (a2, .inl (cZ, 6, .inl (zF (fun _ => false))))]) (Bw D A) A) (cc := cX2_init) (maxL := 1) (ret := none) (by decide) rfl (Nat.le_of_ble_eq_true rfl) ?_
  intro p e s m args below meth c ls A Q H locs hx hb hr hml hts hown hlk hnm hc hw hl hQ
  have hl : lv_has ls 1 [(0, .ref a0)] := hl
  have in_2 : ∀ w ∈ u_ws RX2 TX2 3, w ∈ wsX2_init := fun _ h => List.mem_cons_of_mem _ (List.mem_append_right _ h)
  have lk_0 := hts (.methodLink RX2 3 objectInit) (List.mem_of_getElem? (i := 1) rfl)
  have lk_1 := hts (.instanceMethod objectInit) (List.mem_of_getElem? (i := 2) rfl)
  have lk_2 := hts (.arrayClass .int) (List.mem_of_getElem? (i := 4) rfl)
  have lk_3 := hts (.fieldLink RX2 9 "PloughingMatch$Keys" "measures" "[I") (List.mem_of_getElem? (i := 5) rfl)
  have lk_4 := hts (.arrayClass .boolean) (List.mem_of_getElem? (i := 6) rfl)
  have lk_5 := hts (.fieldLink RX2 15 "PloughingMatch$Keys" "ups" "[Z") (List.mem_of_getElem? (i := 7) rfl)
  have lk_6 := hts (.fieldLink RX2 19 "PloughingMatch$Keys" "size" "I") (List.mem_of_getElem? (i := 8) rfl)
  refine lv_aload_n hx hb dX2_init_0 rfl (lv_at hl 0 rfl) ?_
  refine W.objInit hx hb hown lk_0 lk_1 (hts _ (List.mem_of_getElem? (i := 3) rfl)) rfl (by rw [hml]; exact hl.1) rfl dX2_init_1 (Nat.le_of_ble_eq_true rfl) (Nat.le_of_ble_eq_true rfl) ?_
  refine W.eq (g2 := F0 m 4 ls []) rfl ?_
  refine lv_aload_n hx hb dX2_init_4 rfl (lv_at hl 0 rfl) ?_
  refine lv_bipush (v := nI 6) hx hb dX2_init_5 (by decide) ?_
  refine va_newa hx hb (atype := .int) lk_2 rfl hc.1 hw.1 hw.2.1 hw.2.2 hc.2.1 (a0 := (6, .inl (fun _ => 0))) (fun cA => rfl) (by decide) (nI_clamp (by decide)) (by decide) (by decide) (by decide) dX2_init_7 (fun a1 cA_1 H hK9 hP hD hS => ?_)
  have cA_1e : cA_1 = cI := Option.some.inj ((hK9.2 4 _ rfl).2.symm.trans (hc.1.2 0 _ rfl).2)
  rw [cA_1e] at hP hD
  have hw : Wd D A s H _ [(a0, .inr (2, [.null, .null, .int (nI 0)])), (a1, .inl (cI, 6, .inl (fun _ => 0)))] := ⟨hP, hD, hS⟩
  refine W.widen (k := 1) (n := 6) (by decide) (by decide) ?_
  refine w_putF (C := RX2) (T := TX2) (N := 3) (ci := 2) (v := .ref a1) (ws1 := [(a0, .inr (2, [.ref a1, .null, .int (nI 0)])), (a1, .inl (cI, 6, .inl (fun _ => 0)))]) hx hb hts in_2 tyX2 tyX2_ok nmX2 hown hc hw 0 0 rfl rfl (by decide) lk_3 rfl hnm rfl rfl rfl (Nat.le_of_ble_eq_true rfl) rfl dX2_init_9 (fun H locs hw => ?_)
  refine lv_aload_n hx hb dX2_init_12 rfl (lv_at hl 0 rfl) ?_
  refine lv_bipush (v := nI 6) hx hb dX2_init_13 (by decide) ?_
  refine va_newa hx hb (atype := .boolean) lk_4 rfl hc.1 hw.1 hw.2.1 hw.2.2 hc.2.1 (a0 := (6, .inl (fun _ => 0))) (fun cA => rfl) (by decide) (nI_clamp (by decide)) (by decide) (by decide) (by decide) dX2_init_15 (fun a2 cA_2 H hK9 hP hD hS => ?_)
  have cA_2e : cA_2 = cZ := Option.some.inj ((hK9.2 4 _ rfl).2.symm.trans (hc.1.2 1 _ rfl).2)
  rw [cA_2e] at hP hD
  have hw : Wd D A s H _ [(a0, .inr (2, [.ref a1, .null, .int (nI 0)])), (a1, .inl (cI, 6, .inl (fun _ => 0))), (a2, .inl (cZ, 6, .inl (fun _ => 0)))] := ⟨hP, hD, hS⟩
  refine W.widen (k := 2) (n := 12) (by decide) (by decide) ?_
  refine w_putF (C := RX2) (T := TX2) (N := 3) (ci := 2) (v := .ref a2) (ws1 := [(a0, .inr (2, [.ref a1, .ref a2, .int (nI 0)])), (a1, .inl (cI, 6, .inl (fun _ => 0))), (a2, .inl (cZ, 6, .inl (fun _ => 0)))]) hx hb hts in_2 tyX2 tyX2_ok nmX2 hown hc hw 0 1 rfl rfl (by decide) lk_5 rfl hnm rfl rfl rfl (Nat.le_of_ble_eq_true rfl) rfl dX2_init_17 (fun H locs hw => ?_)
  refine lv_aload_n hx hb dX2_init_20 rfl (lv_at hl 0 rfl) ?_
  refine lv_iconst (v := nI 0) hx hb dX2_init_21 (by decide) ?_
  refine w_put (C := RX2) (T := TX2) (N := 3) (ci := 2) (v := .int (nI 0)) (ws1 := [(a0, .inr (2, [.ref a1, .ref a2, .int (nI 0)])), (a1, .inl (cI, 6, .inl (fun _ => 0))), (a2, .inl (cZ, 6, .inl (fun _ => 0)))]) hx hb hts in_2 tyX2 tyX2_ok nmX2 hown hc hw 0 2 rfl rfl (by decide) lk_6 rfl rfl rfl (Nat.le_of_ble_eq_true rfl) rfl dX2_init_22 (fun H locs hw => ?_)
  subst hQ
  exact r_v hx hb hr hlk hw ⟨a1, a2, rfl⟩ dX2_init_25
def rm_c_X2_append : Room := { frames := 0, cells := 0, slots := 0, locals := 0 }
set_option maxHeartbeats 4000000 in
set_option maxRecDepth 100000 in
theorem c_X2_append (l : Launch) (D : va_G) (cI cZ cB cJ : ClassId) (b0 : Nat) (adK adV : Nat → Nat) (a0 a1 a2 : Nat) (ms : Nat → Nat) (up : Nat → Bool) (n : Nat) (mz : Nat) (b : Bool) (hn : n < 6) : Mv l yX2_append wsX2_append rm_c_X2_append D (TYs cI cZ cB cJ) b0 adK adV [.ref a0, .int (nI mz), .int (zI b)] [(a0, .inr (2, [.ref a1, .ref a2, .int (nI n)])), (a1, .inl (cI, 6, .inl (nF ms))), (a2, .inl (cZ, 6, .inl (zF up)))] (fun w : va_W => w = [(a0, .inr (2, [.ref a1, .ref a2, .int (nI (n + 1))])), (a1, .inl (cI, 6, .inl (nF (va_up ms n mz)))), (a2, .inl (cZ, 6, .inl (zF (va_up up n b))))]) 0 0 := by
  refine e_M (Qf := fun A => va_Qv (fun w : va_W => w = [(a0, .inr (2, [.ref a1, .ref a2, .int (nI (n + 1))])), (a1, .inl (cI, 6, .inl (nF (va_up ms n mz)))), (a2, .inl (cZ, 6, .inl (zF (va_up up n b))))]) (Bw D A) A) (cc := cX2_append) (maxL := 3) (ret := none) (by decide) rfl (Nat.le_of_ble_eq_true rfl) ?_
  intro p e s m args below meth c ls A Q H locs hx hb hr hml hts hown hlk hnm hc hw hl hQ
  have hl : lv_has ls 3 [(0, .ref a0), (1, .int (nI mz)), (2, .int (zI b))] := hl
  have in_2 : ∀ w ∈ u_ws RX2 TX2 3, w ∈ wsX2_append := fun _ h => List.mem_cons_of_mem _ (List.mem_append_right _ h)
  have lk_0 := hts (.fieldLink RX2 19 "PloughingMatch$Keys" "size" "I") (List.mem_of_getElem? (i := 1) rfl)
  have lk_1 := hts (.fieldLink RX2 9 "PloughingMatch$Keys" "measures" "[I") (List.mem_of_getElem? (i := 2) rfl)
  have lk_2 := hts (.fieldLink RX2 15 "PloughingMatch$Keys" "ups" "[Z") (List.mem_of_getElem? (i := 3) rfl)
  refine lv_aload_n hx hb dX2_append_0 rfl (lv_at hl 0 rfl) ?_
  refine w_get (C := RX2) (T := TX2) (N := 3) (ci := 2) hx hb hts in_2 hown hc hw 0 2 rfl rfl (by decide) lk_0 rfl dX2_append_1 ?_
  refine lv_bipush (v := nI 6) hx hb dX2_append_4 (by decide) ?_
  refine wb_icmp_ge (tgt := 39) hx hb (by omega) (by omega) dX2_append_6 (by decide) (fun c_1 => ?_) (fun c_1 => ?_)
  · exact (by omega)
  · skip
    refine lv_aload_n hx hb dX2_append_9 rfl (lv_at hl 0 rfl) ?_
    refine w_get (C := RX2) (T := TX2) (N := 3) (ci := 2) hx hb hts in_2 hown hc hw 0 0 rfl rfl (by decide) lk_1 rfl dX2_append_10 ?_
    refine lv_aload_n hx hb dX2_append_13 rfl (lv_at hl 0 rfl) ?_
    refine w_get (C := RX2) (T := TX2) (N := 3) (ci := 2) hx hb hts in_2 hown hc hw 0 2 rfl rfl (by decide) lk_0 rfl dX2_append_14 ?_
    refine lv_iload_n hx hb dX2_append_17 rfl (lv_at hl 1 rfl) ?_
    refine w_iast (ws1 := [(a0, .inr (2, [.ref a1, .ref a2, .int (nI n)])), (a1, .inl (cI, 6, .inl (nF (va_up ms n mz)))), (a2, .inl (cZ, 6, .inl (zF up)))]) hx hb hc hw 1 rfl rfl (i := n) (by omega) (by decide) (by rw [nF_upd]; rfl) dX2_append_18 (fun H locs hw => ?_)
    refine lv_aload_n hx hb dX2_append_19 rfl (lv_at hl 0 rfl) ?_
    refine w_get (C := RX2) (T := TX2) (N := 3) (ci := 2) hx hb hts in_2 hown hc hw 0 1 rfl rfl (by decide) lk_2 rfl dX2_append_20 ?_
    refine lv_aload_n hx hb dX2_append_23 rfl (lv_at hl 0 rfl) ?_
    refine w_get (C := RX2) (T := TX2) (N := 3) (ci := 2) hx hb hts in_2 hown hc hw 0 2 rfl rfl (by decide) lk_0 rfl dX2_append_24 ?_
    refine lv_iload_n hx hb dX2_append_27 rfl (lv_at hl 2 rfl) ?_
    refine w_zast (ws1 := [(a0, .inr (2, [.ref a1, .ref a2, .int (nI n)])), (a1, .inl (cI, 6, .inl (nF (va_up ms n mz)))), (a2, .inl (cZ, 6, .inl (zF (va_up up n b))))]) hx hb hc hw 2 rfl rfl (i := n) (by omega) (by decide) (by rw [zF_upd]; rfl) dX2_append_28 (fun H locs hw => ?_)
    refine lv_aload_n hx hb dX2_append_29 rfl (lv_at hl 0 rfl) ?_
    refine lv_dup hx hb dX2_append_30 rfl ?_
    refine w_get (C := RX2) (T := TX2) (N := 3) (ci := 2) hx hb hts in_2 hown hc hw 0 2 rfl rfl (by decide) lk_0 rfl dX2_append_31 ?_
    refine lv_iconst (v := nI 1) hx hb dX2_append_34 (by decide) ?_
    refine wn_iadd hx hb dX2_append_35 ?_
    refine w_put (C := RX2) (T := TX2) (N := 3) (ci := 2) (v := .int (nI (n + 1))) (ws1 := [(a0, .inr (2, [.ref a1, .ref a2, .int (nI (n + 1))])), (a1, .inl (cI, 6, .inl (nF (va_up ms n mz)))), (a2, .inl (cZ, 6, .inl (zF (va_up up n b))))]) hx hb hts in_2 tyX2 tyX2_ok nmX2 hown hc hw 0 2 rfl rfl (by decide) lk_0 rfl rfl rfl (Nat.le_of_ble_eq_true rfl) rfl dX2_append_36 (fun H locs hw => ?_)
    subst hQ
    exact r_v hx hb hr hlk hw rfl dX2_append_39
def rm_c_X2_clear : Room := { frames := 0, cells := 0, slots := 0, locals := 0 }
set_option maxHeartbeats 4000000 in
set_option maxRecDepth 100000 in
theorem c_X2_clear (l : Launch) (D : va_G) (cI cZ cB cJ : ClassId) (b0 : Nat) (adK adV : Nat → Nat) (a0 a1 a2 : Nat) (ms : Nat → Nat) (up : Nat → Bool) (n : Nat) : Mv l yX2_clear wsX2_clear rm_c_X2_clear D (TYs cI cZ cB cJ) b0 adK adV [.ref a0] [(a0, .inr (2, [.ref a1, .ref a2, .int (nI n)])), (a1, .inl (cI, 6, .inl (nF ms))), (a2, .inl (cZ, 6, .inl (zF up)))] (fun w : va_W => w = [(a0, .inr (2, [.ref a1, .ref a2, .int (nI 0)])), (a1, .inl (cI, 6, .inl (nF ms))), (a2, .inl (cZ, 6, .inl (zF up)))]) 0 0 := by
  refine e_M (Qf := fun A => va_Qv (fun w : va_W => w = [(a0, .inr (2, [.ref a1, .ref a2, .int (nI 0)])), (a1, .inl (cI, 6, .inl (nF ms))), (a2, .inl (cZ, 6, .inl (zF up)))]) (Bw D A) A) (cc := cX2_clear) (maxL := 1) (ret := none) (by decide) rfl (Nat.le_of_ble_eq_true rfl) ?_
  intro p e s m args below meth c ls A Q H locs hx hb hr hml hts hown hlk hnm hc hw hl hQ
  have hl : lv_has ls 1 [(0, .ref a0)] := hl
  have in_2 : ∀ w ∈ u_ws RX2 TX2 3, w ∈ wsX2_clear := fun _ h => List.mem_cons_of_mem _ (List.mem_append_right _ h)
  have lk_0 := hts (.fieldLink RX2 19 "PloughingMatch$Keys" "size" "I") (List.mem_of_getElem? (i := 1) rfl)
  refine lv_aload_n hx hb dX2_clear_0 rfl (lv_at hl 0 rfl) ?_
  refine lv_iconst (v := nI 0) hx hb dX2_clear_1 (by decide) ?_
  refine w_put (C := RX2) (T := TX2) (N := 3) (ci := 2) (v := .int (nI 0)) (ws1 := [(a0, .inr (2, [.ref a1, .ref a2, .int (nI 0)])), (a1, .inl (cI, 6, .inl (nF ms))), (a2, .inl (cZ, 6, .inl (zF up)))]) hx hb hts in_2 tyX2 tyX2_ok nmX2 hown hc hw 0 2 rfl rfl (by decide) lk_0 rfl rfl rfl (Nat.le_of_ble_eq_true rfl) rfl dX2_clear_2 (fun H locs hw => ?_)
  subst hQ
  exact r_v hx hb hr hlk hw rfl dX2_clear_5
def rm_c_X2_size : Room := { frames := 0, cells := 0, slots := 0, locals := 0 }
set_option maxHeartbeats 4000000 in
set_option maxRecDepth 100000 in
theorem c_X2_size (l : Launch) (D : va_G) (cI cZ cB cJ : ClassId) (b0 : Nat) (adK adV : Nat → Nat) (a0 a1 a2 : Nat) (ms : Nat → Nat) (up : Nat → Bool) (n : Nat) : Mi l yX2_size wsX2_size rm_c_X2_size D (TYs cI cZ cB cJ) b0 adK adV [.ref a0] [(a0, .inr (2, [.ref a1, .ref a2, .int (nI n)])), (a1, .inl (cI, 6, .inl (nF ms))), (a2, .inl (cZ, 6, .inl (zF up)))] (fun (r : Int32) (w : va_W) => r = nI n ∧ w = [(a0, .inr (2, [.ref a1, .ref a2, .int (nI n)])), (a1, .inl (cI, 6, .inl (nF ms))), (a2, .inl (cZ, 6, .inl (zF up)))]) 0 0 := by
  refine e_M (Qf := fun A => va_Qi (fun (r : Int32) (w : va_W) => r = nI n ∧ w = [(a0, .inr (2, [.ref a1, .ref a2, .int (nI n)])), (a1, .inl (cI, 6, .inl (nF ms))), (a2, .inl (cZ, 6, .inl (zF up)))]) (Bw D A) A) (cc := cX2_size) (maxL := 1) (ret := (some .int)) (by decide) rfl (Nat.le_of_ble_eq_true rfl) ?_
  intro p e s m args below meth c ls A Q H locs hx hb hr hml hts hown hlk hnm hc hw hl hQ
  have hl : lv_has ls 1 [(0, .ref a0)] := hl
  have in_2 : ∀ w ∈ u_ws RX2 TX2 3, w ∈ wsX2_size := fun _ h => List.mem_cons_of_mem _ (List.mem_append_right _ h)
  have lk_0 := hts (.fieldLink RX2 19 "PloughingMatch$Keys" "size" "I") (List.mem_of_getElem? (i := 1) rfl)
  refine lv_aload_n hx hb dX2_size_0 rfl (lv_at hl 0 rfl) ?_
  refine w_get (C := RX2) (T := TX2) (N := 3) (ci := 2) hx hb hts in_2 hown hc hw 0 2 rfl rfl (by decide) lk_0 rfl dX2_size_1 ?_
  subst hQ
  exact r_i hx hb hr rfl hlk hw ⟨rfl, rfl⟩ dX2_size_4
def rm_c_X2_measureAt : Room := { frames := 0, cells := 0, slots := 0, locals := 0 }
set_option maxHeartbeats 4000000 in
set_option maxRecDepth 100000 in
theorem c_X2_measureAt (l : Launch) (D : va_G) (cI cZ cB cJ : ClassId) (b0 : Nat) (adK adV : Nat → Nat) (a0 a1 a2 : Nat) (ms : Nat → Nat) (up : Nat → Bool) (n : Nat) (k : Nat) (hk : k < 6) : Mi l yX2_measureAt wsX2_measureAt rm_c_X2_measureAt D (TYs cI cZ cB cJ) b0 adK adV [.ref a0, .int (nI k)] [(a0, .inr (2, [.ref a1, .ref a2, .int (nI n)])), (a1, .inl (cI, 6, .inl (nF ms))), (a2, .inl (cZ, 6, .inl (zF up)))] (fun (r : Int32) (w : va_W) => r = nI (ms k) ∧ w = [(a0, .inr (2, [.ref a1, .ref a2, .int (nI n)])), (a1, .inl (cI, 6, .inl (nF ms))), (a2, .inl (cZ, 6, .inl (zF up)))]) 0 0 := by
  refine e_M (Qf := fun A => va_Qi (fun (r : Int32) (w : va_W) => r = nI (ms k) ∧ w = [(a0, .inr (2, [.ref a1, .ref a2, .int (nI n)])), (a1, .inl (cI, 6, .inl (nF ms))), (a2, .inl (cZ, 6, .inl (zF up)))]) (Bw D A) A) (cc := cX2_measureAt) (maxL := 2) (ret := (some .int)) (by decide) rfl (Nat.le_of_ble_eq_true rfl) ?_
  intro p e s m args below meth c ls A Q H locs hx hb hr hml hts hown hlk hnm hc hw hl hQ
  have hl : lv_has ls 2 [(0, .ref a0), (1, .int (nI k))] := hl
  have in_2 : ∀ w ∈ u_ws RX2 TX2 3, w ∈ wsX2_measureAt := fun _ h => List.mem_cons_of_mem _ (List.mem_append_right _ h)
  have lk_0 := hts (.fieldLink RX2 9 "PloughingMatch$Keys" "measures" "[I") (List.mem_of_getElem? (i := 1) rfl)
  refine lv_aload_n hx hb dX2_measureAt_0 rfl (lv_at hl 0 rfl) ?_
  refine w_get (C := RX2) (T := TX2) (N := 3) (ci := 2) hx hb hts in_2 hown hc hw 0 0 rfl rfl (by decide) lk_0 rfl dX2_measureAt_1 ?_
  refine lv_iload_n hx hb dX2_measureAt_4 rfl (lv_at hl 1 rfl) ?_
  refine w_iald hx hb hc hw 1 rfl rfl (i := k) (by omega) (by decide) dX2_measureAt_5 ?_
  refine wn_top (y := nI (ms k)) rfl ?_
  subst hQ
  exact r_i hx hb hr rfl hlk hw ⟨rfl, rfl⟩ dX2_measureAt_6
def rm_c_X2_isUp : Room := { frames := 0, cells := 0, slots := 0, locals := 0 }
set_option maxHeartbeats 4000000 in
set_option maxRecDepth 100000 in
theorem c_X2_isUp (l : Launch) (D : va_G) (cI cZ cB cJ : ClassId) (b0 : Nat) (adK adV : Nat → Nat) (a0 a1 a2 : Nat) (ms : Nat → Nat) (up : Nat → Bool) (n : Nat) (k : Nat) (hk : k < 6) : Mi l yX2_isUp wsX2_isUp rm_c_X2_isUp D (TYs cI cZ cB cJ) b0 adK adV [.ref a0, .int (nI k)] [(a0, .inr (2, [.ref a1, .ref a2, .int (nI n)])), (a1, .inl (cI, 6, .inl (nF ms))), (a2, .inl (cZ, 6, .inl (zF up)))] (fun (r : Int32) (w : va_W) => r = zI (up k) ∧ w = [(a0, .inr (2, [.ref a1, .ref a2, .int (nI n)])), (a1, .inl (cI, 6, .inl (nF ms))), (a2, .inl (cZ, 6, .inl (zF up)))]) 0 0 := by
  refine e_M (Qf := fun A => va_Qi (fun (r : Int32) (w : va_W) => r = zI (up k) ∧ w = [(a0, .inr (2, [.ref a1, .ref a2, .int (nI n)])), (a1, .inl (cI, 6, .inl (nF ms))), (a2, .inl (cZ, 6, .inl (zF up)))]) (Bw D A) A) (cc := cX2_isUp) (maxL := 2) (ret := (some .boolean)) (by decide) rfl (Nat.le_of_ble_eq_true rfl) ?_
  intro p e s m args below meth c ls A Q H locs hx hb hr hml hts hown hlk hnm hc hw hl hQ
  have hl : lv_has ls 2 [(0, .ref a0), (1, .int (nI k))] := hl
  have in_2 : ∀ w ∈ u_ws RX2 TX2 3, w ∈ wsX2_isUp := fun _ h => List.mem_cons_of_mem _ (List.mem_append_right _ h)
  have lk_0 := hts (.fieldLink RX2 15 "PloughingMatch$Keys" "ups" "[Z") (List.mem_of_getElem? (i := 1) rfl)
  refine lv_aload_n hx hb dX2_isUp_0 rfl (lv_at hl 0 rfl) ?_
  refine w_get (C := RX2) (T := TX2) (N := 3) (ci := 2) hx hb hts in_2 hown hc hw 0 1 rfl rfl (by decide) lk_0 rfl dX2_isUp_1 ?_
  refine lv_iload_n hx hb dX2_isUp_4 rfl (lv_at hl 1 rfl) ?_
  refine w_zald hx hb hc hw 2 rfl rfl (i := k) (by omega) (by decide) dX2_isUp_5 ?_
  refine wn_top (y := zI (up k)) rfl ?_
  subst hQ
  exact r_i hx hb hr (zI_nar _) hlk hw ⟨rfl, rfl⟩ dX2_isUp_6
def rm_c_X2_copyFrom : Room := { frames := 1, cells := 0, slots := 0, locals := 22 }
set_option maxHeartbeats 4000000 in
set_option maxRecDepth 100000 in
theorem c_X2_copyFrom (l : Launch) (D : va_G) (cI cZ cB cJ : ClassId) (b0 : Nat) (adK adV : Nat → Nat) (a0 a1 a2 b0_ b1 b2 : Nat) (ms : Nat → Nat) (up : Nat → Bool) (n : Nat) (ms2 : Nat → Nat) (up2 : Nat → Bool) (n2 : Nat) (hn : n2 ≤ 6) : Mv l yX2_copyFrom wsX2_copyFrom rm_c_X2_copyFrom D (TYs cI cZ cB cJ) b0 adK adV [.ref a0, .ref b0_] [(a0, .inr (2, [.ref a1, .ref a2, .int (nI n)])), (a1, .inl (cI, 6, .inl (nF ms))), (a2, .inl (cZ, 6, .inl (zF up))), (b0_, .inr (2, [.ref b1, .ref b2, .int (nI n2)])), (b1, .inl (cI, 6, .inl (nF ms2))), (b2, .inl (cZ, 6, .inl (zF up2)))] (fun w : va_W => w = [(a0, .inr (2, [.ref a1, .ref a2, .int (nI n2)])), (a1, .inl (cI, 6, .inl (nF (fa_fill ms2 ms n2)))), (a2, .inl (cZ, 6, .inl (zF (fa_fill up2 up n2)))), (b0_, .inr (2, [.ref b1, .ref b2, .int (nI n2)])), (b1, .inl (cI, 6, .inl (nF ms2))), (b2, .inl (cZ, 6, .inl (zF up2)))]) 0 0 := by
  refine e_M (Qf := fun A => va_Qv (fun w : va_W => w = [(a0, .inr (2, [.ref a1, .ref a2, .int (nI n2)])), (a1, .inl (cI, 6, .inl (nF (fa_fill ms2 ms n2)))), (a2, .inl (cZ, 6, .inl (zF (fa_fill up2 up n2)))), (b0_, .inr (2, [.ref b1, .ref b2, .int (nI n2)])), (b1, .inl (cI, 6, .inl (nF ms2))), (b2, .inl (cZ, 6, .inl (zF up2)))]) (Bw D A) A) (cc := cX2_copyFrom) (maxL := 3) (ret := none) (by decide) rfl (Nat.le_of_ble_eq_true rfl) ?_
  intro p e s m args below meth c ls A Q H locs hx hb hr hml hts hown hlk hnm hc hw hl hQ
  have hl : lv_has ls 3 [(0, .ref a0), (1, .ref b0_)] := hl
  have in_2 : ∀ w ∈ u_ws RX2 TX2 3, w ∈ wsX2_copyFrom := fun _ h => List.mem_cons_of_mem _ (List.mem_append_right _ h)
  have lk_0 := hts (.fieldLink RX2 19 "PloughingMatch$Keys" "size" "I") (List.mem_of_getElem? (i := 1) rfl)
  have lk_1 := hts (.fieldLink RX2 9 "PloughingMatch$Keys" "measures" "[I") (List.mem_of_getElem? (i := 2) rfl)
  have lk_2 := hts (.fieldLink RX2 15 "PloughingMatch$Keys" "ups" "[Z") (List.mem_of_getElem? (i := 3) rfl)
  refine lv_aload_n hx hb dX2_copyFrom_0 rfl (lv_at hl 0 rfl) ?_
  refine k_v (wr := [(b0_, .inr (2, [.ref b1, .ref b2, .int (nI n2)])), (b1, .inl (cI, 6, .inl (nF ms2))), (b2, .inl (cZ, 6, .inl (zF up2)))]) (j_V ⟨hx, hb, hml, hown, hts⟩ (c_X2_clear l D cI cZ cB cJ b0 adK adV a0 a1 a2 ms up n H.size) (cwV 0 hts gX2_copyFrom_X2_clear rfl rfl rfl (by decide +kernel) ⟨by decide, by decide⟩) hc hw [0, 1, 2] rfl rfl 2 0 rfl rfl rfl rfl hl.1 rfl (Nat.le_of_ble_eq_true rfl) dX2_copyFrom_1 ⟨by decide, by decide⟩) hc hw [0, 1, 2] [3, 4, 5] rfl rfl (by decide) (by decide) (fun  w H locs hq hw => ?_)
  subst hq
  have hw : Wd D A s H locs [(a0, .inr (2, [.ref a1, .ref a2, .int (nI 0)])), (a1, .inl (cI, 6, .inl (nF ms))), (a2, .inl (cZ, 6, .inl (zF up))), (b0_, .inr (2, [.ref b1, .ref b2, .int (nI n2)])), (b1, .inl (cI, 6, .inl (nF ms2))), (b2, .inl (cZ, 6, .inl (zF up2)))] := hw.sub [3, 4, 5, 0, 1, 2] (by decide) rfl
  refine lv_iconst (v := nI 0) hx hb dX2_copyFrom_4 (by decide) ?_
  refine lv_istore_n (lv' := [(2, .int (nI 0)), (0, .ref a0), (1, .ref b0_)]) hx hb dX2_copyFrom_5 rfl hl (by decide) rfl (fun ls hl => ?_)
  have key6 : ∀ (fuel : Nat) (k : Nat) (ms1 : Nat → Nat) (up1 : Nat → Bool), k ≤ n2 → ms1 = fa_fill ms2 ms k → up1 = fa_fill up2 up k → n2 - k < fuel → ∀ (H : Heap) (locs : List Loc) (ls : Array Slot), Wd D A s H locs [(a0, .inr (2, [.ref a1, .ref a2, .int (nI k)])), (a1, .inl (cI, 6, .inl (nF ms1))), (a2, .inl (cZ, 6, .inl (zF up1))), (b0_, .inr (2, [.ref b1, .ref b2, .int (nI n2)])), (b1, .inl (cI, 6, .inl (nF ms2))), (b2, .inl (cZ, 6, .inl (zF up2)))] → lv_has ls 3 [(0, .ref a0), (1, .ref b0_), (2, .int (nI k))] → W p l e rm_c_X2_copyFrom s m args below meth c H locs 0 0 Q (F0 m 6 ls []) := by
    intro fuel
    induction fuel with
    | zero => intro k ms1 up1 hk e1 e2 hfu; exact absurd hfu (Nat.not_lt_zero _)
    | succ fuel ih =>
      intro k ms1 up1 hk e1 e2 hfu H locs ls hw hl
      have ih6 := ih
      refine lv_iload_n hx hb dX2_copyFrom_6 rfl (lv_at hl 2 rfl) ?_
      refine lv_aload_n hx hb dX2_copyFrom_7 rfl (lv_at hl 1 rfl) ?_
      refine w_get (C := RX2) (T := TX2) (N := 3) (ci := 2) hx hb hts in_2 hown hc hw 3 2 rfl rfl (by decide) lk_0 rfl dX2_copyFrom_8 ?_
      refine wb_icmp_ge (tgt := 36) hx hb (by omega) (by omega) dX2_copyFrom_11 (by decide) (fun c_1 => ?_) (fun c_1 => ?_)
      · skip
        subst hQ
        exact r_v hx hb hr hlk hw (by rw [e1, e2, show k = n2 by omega]) dX2_copyFrom_36
      · skip
        refine lv_aload_n hx hb dX2_copyFrom_14 rfl (lv_at hl 0 rfl) ?_
        refine lv_aload_n hx hb dX2_copyFrom_15 rfl (lv_at hl 1 rfl) ?_
        refine w_get (C := RX2) (T := TX2) (N := 3) (ci := 2) hx hb hts in_2 hown hc hw 3 0 rfl rfl (by decide) lk_1 rfl dX2_copyFrom_16 ?_
        refine lv_iload_n hx hb dX2_copyFrom_19 rfl (lv_at hl 2 rfl) ?_
        refine w_iald hx hb hc hw 4 rfl rfl (i := k) (by omega) (by decide) dX2_copyFrom_20 ?_
        refine wn_top (y := nI (ms2 k)) rfl ?_
        refine lv_aload_n hx hb dX2_copyFrom_21 rfl (lv_at hl 1 rfl) ?_
        refine w_get (C := RX2) (T := TX2) (N := 3) (ci := 2) hx hb hts in_2 hown hc hw 3 1 rfl rfl (by decide) lk_2 rfl dX2_copyFrom_22 ?_
        refine lv_iload_n hx hb dX2_copyFrom_25 rfl (lv_at hl 2 rfl) ?_
        refine w_zald hx hb hc hw 5 rfl rfl (i := k) (by omega) (by decide) dX2_copyFrom_26 ?_
        refine wn_top (y := zI (up2 k)) rfl ?_
        refine k_v (wr := [(b0_, .inr (2, [.ref b1, .ref b2, .int (nI n2)])), (b1, .inl (cI, 6, .inl (nF ms2))), (b2, .inl (cZ, 6, .inl (zF up2)))]) (j_V ⟨hx, hb, hml, hown, hts⟩ (c_X2_append l D cI cZ cB cJ b0 adK adV a0 a1 a2 ms1 up1 k (ms2 k) (up2 k) (by omega) H.size) (cwV 2 hts gX2_copyFrom_X2_append rfl rfl rfl (by decide +kernel) ⟨by decide, by decide⟩) hc hw [0, 1, 2] rfl rfl 2 0 rfl rfl rfl rfl hl.1 rfl (Nat.le_of_ble_eq_true rfl) dX2_copyFrom_27 ⟨by decide, by decide⟩) hc hw [0, 1, 2] [3, 4, 5] rfl rfl (by decide) (by decide) (fun  w H locs hq hw => ?_)
        subst hq
        have hw : Wd D A s H locs [(a0, .inr (2, [.ref a1, .ref a2, .int (nI (k + 1))])), (a1, .inl (cI, 6, .inl (nF (va_up ms1 k (ms2 k))))), (a2, .inl (cZ, 6, .inl (zF (va_up up1 k (up2 k))))), (b0_, .inr (2, [.ref b1, .ref b2, .int (nI n2)])), (b1, .inl (cI, 6, .inl (nF ms2))), (b2, .inl (cZ, 6, .inl (zF up2)))] := hw.sub [3, 4, 5, 0, 1, 2] (by decide) rfl
        refine wn_iinc (a := k) (d := 1) (lv' := [(2, .int (nI (k + 1))), (0, .ref a0), (1, .ref b0_)]) hx hb dX2_copyFrom_30 hl (k := 2) rfl (by decide) rfl (fun ls hl => ?_)
        refine lv_goto (tgt := 6) hx hb dX2_copyFrom_33 (by decide) ?_
        exact ih6 (k + 1) (va_up ms1 k (ms2 k)) (va_up up1 k (up2 k)) (by omega) (by rw [e1]; exact fa_fill_up _ _ k) (by rw [e2]; exact fa_fill_up _ _ k) (by omega) _ _ _ hw (lv_sub hl [1, 2, 0] rfl)
  exact key6 (n2 - 0 + 1) 0 ms up (by omega) (fa_fill_0 _ _).symm (fa_fill_0 _ _).symm (Nat.lt_succ_self _) _ _ _ hw (lv_sub hl [1, 2, 0] rfl)
