theorem am_ex {D : va_G} {tys : List (ClassId × FieldType)} {b0 : Nat} {adK adV : Nat → Nat} {A : Nat → Prop} {s : State} (hc : Cx D tys b0 adK adV A s) {X : String} (i : Nat) (h : amb_exc[i]? = some X) : va_Nw (.castable X X) s := hc.2.2.2.2.2.2.2.2.2.2.2.2.2.1 X (List.mem_of_getElem? h)
theorem am_dc {D : va_G} {tys : List (ClassId × FieldType)} {b0 : Nat} {adK adV : Nat → Nat} {A : Nat → Prop} {s : State} {args : Array Value} (hc : Cx D tys b0 adK adV A s) : ∀ w ∈ amb_dec.map Cond.declares, w.before args s = true := by
  intro w hw
  obtain ⟨x, hx, rfl⟩ := List.mem_map.mp hw
  exact va_Nw.use rfl (hc.2.2.2.2.2.2.2.2.2.2.2.2.2.2.2.2 x hx)
theorem vx_bad0 : ∀ w ∈ (vx_atS RX9 183 "java/lang/IllegalArgumentException" ["java/lang/RuntimeException", "java/lang/Exception"]).filter (fun w => !goodWord w), w ∈ (Cond.castable "java/lang/IllegalArgumentException" "java/lang/IllegalArgumentException" :: amb_dec.map Cond.declares) := by decide +kernel
theorem vx_good0 : ∀ w ∈ Cond.classLink RX9 179 "java/lang/IllegalArgumentException" :: Cond.initialized "java/lang/IllegalArgumentException" :: vx_atS RX9 183 "java/lang/IllegalArgumentException" ["java/lang/RuntimeException", "java/lang/Exception"], vx_ot w = true := by decide +kernel
theorem vx_bad1 : ∀ w ∈ (vx_atS RX9 109 "java/lang/IllegalStateException" ["java/lang/RuntimeException", "java/lang/Exception"]).filter (fun w => !goodWord w), w ∈ (Cond.castable "java/lang/IllegalStateException" "java/lang/IllegalStateException" :: amb_dec.map Cond.declares) := by decide +kernel
theorem vx_good1 : ∀ w ∈ Cond.classLink RX9 105 "java/lang/IllegalStateException" :: Cond.initialized "java/lang/IllegalStateException" :: vx_atS RX9 109 "java/lang/IllegalStateException" ["java/lang/RuntimeException", "java/lang/Exception"], vx_ot w = true := by decide +kernel
theorem vx_bad2 : ∀ w ∈ (vx_atS RX9 270 "java/lang/IndexOutOfBoundsException" ["java/lang/RuntimeException", "java/lang/Exception"]).filter (fun w => !goodWord w), w ∈ (Cond.castable "java/lang/IndexOutOfBoundsException" "java/lang/IndexOutOfBoundsException" :: amb_dec.map Cond.declares) := by decide +kernel
theorem vx_good2 : ∀ w ∈ Cond.classLink RX9 266 "java/lang/IndexOutOfBoundsException" :: Cond.initialized "java/lang/IndexOutOfBoundsException" :: vx_atS RX9 270 "java/lang/IndexOutOfBoundsException" ["java/lang/RuntimeException", "java/lang/Exception"], vx_ot w = true := by decide +kernel

/-- how many plots there are -/
def pl (dr : Bool) (n : Nat) : Nat := if dr = true then n else 0
theorem isB_ok {a b : Nat} (h : a < b) (hb : b < 2 ^ 31) : isB (nI a) (nI b) = true := by
  rw [isB_nat (Nat.lt_trans h hb) hb]; exact decide_eq_true h
theorem isB_0 (v : Int32) : isB v (nI 0) = false := by
  cases h : isB v (nI 0) with
  | false => rfl
  | true => obtain ⟨k, hk, -⟩ := isB_t h rfl (by decide); omega
def rm_c_X9_requireArgument : Room := { frames := 0, cells := 0, slots := 0, locals := 0 }
set_option maxHeartbeats 4000000 in
set_option maxRecDepth 100000 in
theorem c_X9_requireArgument (l : Launch) (D : va_G) (cI cZ cB cJ : ClassId) (b0 : Nat) (adK adV : Nat → Nat) (b : Bool) (hbt : b = true) : Mv l yX9_requireArgument wsX9_requireArgument rm_c_X9_requireArgument D (TYs cI cZ cB cJ) b0 adK adV [.int (zI b)] [] (fun w : va_W => w = []) 0 0 := by
  refine e_M (Qf := fun A => va_Qv (fun w : va_W => w = []) (Bw D A) A) (cc := cX9_requireArgument) (maxL := 1) (ret := none) (by decide) rfl (Nat.le_of_ble_eq_true rfl) ?_
  intro p e s m args below meth c ls A Q H locs hx hb hr hml hts hown hlk hnm hc hw hl hQ
  have hl : lv_has ls 1 [(0, .int (zI b))] := hl
  refine lv_iload_n hx hb dX9_requireArgument_0 rfl (lv_at hl 0 rfl) ?_
  refine wz_if_ne (tgt := 15) hx hb dX9_requireArgument_1 (by decide) (fun c_1 => ?_) (fun c_1 => ?_)
  · skip
    subst hQ
    exact r_v hx hb hr hlk hw rfl dX9_requireArgument_15
  · exact (by rw [hbt] at c_1; cases c_1)
def rm_c_X9_requireArgument_no : Room := { frames := 6, cells := 1, slots := 6, locals := 82 }
set_option maxHeartbeats 4000000 in
set_option maxRecDepth 100000 in
theorem c_X9_requireArgument_no (l : Launch) (D : va_G) (cI cZ cB cJ : ClassId) (b0 : Nat) (adK adV : Nat → Nat) (hls : l.stackTraces = false) (b : Bool) (hbt : b = false) : Xv l yX9_requireArgument wsX9_requireArgument rm_c_X9_requireArgument_no D (TYs cI cZ cB cJ) b0 adK adV [.int (zI b)] [] (fun w : va_W => (False) ∧ w = []) (fun (E : String) (w : va_W) => E = "java/lang/IllegalArgumentException" ∧ w = []) 1 6 := by
  refine e_X (Qf := fun A => va_Qv (fun w : va_W => (False) ∧ w = []) (Bw D A) A) (XF := fun A => XB D A (fun (E : String) (w : va_W) => E = "java/lang/IllegalArgumentException" ∧ w = [])) (cc := cX9_requireArgument) (maxL := 1) (ret := none) (by decide) rfl (Nat.le_of_ble_eq_true rfl) ?_
  intro p e s m args below meth c ls A Q H locs hx hb hr hml htb hts hown hlk hnm hc hw hl hQ
  have hl : lv_has ls 1 [(0, .int (zI b))] := hl
  have lk_0 := hts (.classLink RX9 179 "java/lang/IllegalArgumentException") (List.mem_of_getElem? (i := 1) rfl)
  have lk_1 := hts (.initialized "java/lang/IllegalArgumentException") (List.mem_of_getElem? (i := 2) rfl)
  refine lv_iload_n hx hb dX9_requireArgument_0 rfl (lv_at hl 0 rfl) ?_
  refine wz_if_ne (tgt := 15) hx hb dX9_requireArgument_1 (by decide) (fun c_1 => ?_) (fun c_1 => ?_)
  · exact (by rw [hbt] at c_1; cases c_1)
  · skip
    obtain ⟨sa_2, hsa_2⟩ := hc.2.2.2.2.2.2.2.1 _ (List.mem_of_getElem? (i := 0) rfl)
    subst hQ
    exact vx_throwSW hx hb hls hown (by decide) (by decide) lk_0 lk_1 hsa_2 (vx_at_all hts (fun _ h => List.mem_cons_of_mem _ (List.mem_append_right _ h)) vx_bad0 (vx_c (va_Nw.use rfl (am_ex hc 0 rfl)) (am_dc hc))) vx_good0 (hc.2.2.2.2.2.2.2.2.2.2.1.narrow hc.2.2.1) (hc.2.2.2.2.2.2.2.2.2.2.2.1.narrow hc.2.2.1) hw.2.2 (hl.1.trans hml.symm) dX9_requireArgument_4 dX9_requireArgument_7 dX9_requireArgument_8 dX9_requireArgument_11 dX9_requireArgument_14 (fun x h => (htb x h).elim) (by decide) (Nat.le_of_ble_eq_true rfl) (by decide) (by decide) hlk (x_hx hw ⟨rfl, rfl⟩) hw.2.2.2.2 (by decide) (by decide)
def rm_c_X9_requireIndex : Room := { frames := 1, cells := 0, slots := 0, locals := 21 }
set_option maxHeartbeats 4000000 in
set_option maxRecDepth 100000 in
theorem c_X9_requireIndex (l : Launch) (D : va_G) (cI cZ cB cJ : ClassId) (b0 : Nat) (adK adV : Nat → Nat) (i : Nat) (n : Nat) (hi : i < n) (hn : n < 2 ^ 31) : Mv l yX9_requireIndex wsX9_requireIndex rm_c_X9_requireIndex D (TYs cI cZ cB cJ) b0 adK adV [.int (nI i), .int (nI n)] [] (fun w : va_W => w = []) 0 0 := by
  refine e_M (Qf := fun A => va_Qv (fun w : va_W => w = []) (Bw D A) A) (cc := cX9_requireIndex) (maxL := 2) (ret := none) (by decide) rfl (Nat.le_of_ble_eq_true rfl) ?_
  intro p e s m args below meth c ls A Q H locs hx hb hr hml hts hown hlk hnm hc hw hl hQ
  have hl : lv_has ls 2 [(0, .int (nI i)), (1, .int (nI n))] := hl
  refine lv_iload_n hx hb dX9_requireIndex_0 rfl (lv_at hl 0 rfl) ?_
  refine lv_iload_n hx hb dX9_requireIndex_1 rfl (lv_at hl 1 rfl) ?_
  refine k_i (wr := []) (j_S ⟨hx, hb, hml, hown, hts⟩ (c_X9_isBelow l D cI cZ cB cJ b0 adK adV (nI i) (nI n) H.size) (va_cwS 2 hts gX9_requireIndex_X9_isBelow rfl rfl rfl (by decide +kernel) ⟨by decide, by decide⟩) hc hw [] rfl rfl rfl hl.1 rfl (Nat.le_of_ble_eq_true rfl) dX9_requireIndex_2 ⟨by decide, by decide⟩) hc hw [] [] rfl rfl (by decide) (by decide) (fun r w H locs hq hw => ?_)
  obtain ⟨rfl, rfl⟩ := hq
  have hw : Wd D A s H locs [] := hw
  refine wz_if_ne (tgt := 19) hx hb dX9_requireIndex_5 (by decide) (fun c_1 => ?_) (fun c_1 => ?_)
  · skip
    subst hQ
    exact r_v hx hb hr hlk hw rfl dX9_requireIndex_19
  · exact (by rw [isB_ok hi hn] at c_1; cases c_1)
def rm_c_X9_requireIndex_no : Room := { frames := 6, cells := 1, slots := 6, locals := 82 }
set_option maxHeartbeats 4000000 in
set_option maxRecDepth 100000 in
theorem c_X9_requireIndex_no (l : Launch) (D : va_G) (cI cZ cB cJ : ClassId) (b0 : Nat) (adK adV : Nat → Nat) (hls : l.stackTraces = false) (i : Int32) (n : Nat) (hi : isB i (nI n) = false) : Xv l yX9_requireIndex wsX9_requireIndex rm_c_X9_requireIndex_no D (TYs cI cZ cB cJ) b0 adK adV [.int i, .int (nI n)] [] (fun w : va_W => (False) ∧ w = []) (fun (E : String) (w : va_W) => E = "java/lang/IndexOutOfBoundsException" ∧ w = []) 1 6 := by
  refine e_X (Qf := fun A => va_Qv (fun w : va_W => (False) ∧ w = []) (Bw D A) A) (XF := fun A => XB D A (fun (E : String) (w : va_W) => E = "java/lang/IndexOutOfBoundsException" ∧ w = [])) (cc := cX9_requireIndex) (maxL := 2) (ret := none) (by decide) rfl (Nat.le_of_ble_eq_true rfl) ?_
  intro p e s m args below meth c ls A Q H locs hx hb hr hml htb hts hown hlk hnm hc hw hl hQ
  have hl : lv_has ls 2 [(0, .int i), (1, .int (nI n))] := hl
  have lk_0 := hts (.classLink RX9 266 "java/lang/IndexOutOfBoundsException") (List.mem_of_getElem? (i := 1) rfl)
  have lk_1 := hts (.initialized "java/lang/IndexOutOfBoundsException") (List.mem_of_getElem? (i := 2) rfl)
  refine lv_iload_n hx hb dX9_requireIndex_0 rfl (lv_at hl 0 rfl) ?_
  refine lv_iload_n hx hb dX9_requireIndex_1 rfl (lv_at hl 1 rfl) ?_
  refine k_i (wr := []) (j_S ⟨hx, hb, hml, hown, hts⟩ (c_X9_isBelow l D cI cZ cB cJ b0 adK adV i (nI n) H.size) (va_cwS 2 hts gX9_requireIndex_X9_isBelow rfl rfl rfl (by decide +kernel) ⟨by decide, by decide⟩) hc hw [] rfl rfl rfl hl.1 rfl (Nat.le_of_ble_eq_true rfl) dX9_requireIndex_2 ⟨by decide, by decide⟩) hc hw [] [] rfl rfl (by decide) (by decide) (fun r w H locs hq hw => ?_)
  obtain ⟨rfl, rfl⟩ := hq
  have hw : Wd D A s H locs [] := hw
  refine wz_if_ne (tgt := 19) hx hb dX9_requireIndex_5 (by decide) (fun c_1 => ?_) (fun c_1 => ?_)
  · exact (by rw [hi] at c_1; cases c_1)
  · skip
    obtain ⟨sa_2, hsa_2⟩ := hc.2.2.2.2.2.2.2.1 _ (List.mem_of_getElem? (i := 3) rfl)
    subst hQ
    exact vx_throwSW hx hb hls hown (by decide) (by decide) lk_0 lk_1 hsa_2 (vx_at_all hts (fun _ h => List.mem_cons_of_mem _ (List.mem_append_right _ h)) vx_bad2 (vx_c (va_Nw.use rfl (am_ex hc 2 rfl)) (am_dc hc))) vx_good2 (hc.2.2.2.2.2.2.2.2.2.2.1.narrow hc.2.2.1) (hc.2.2.2.2.2.2.2.2.2.2.2.1.narrow hc.2.2.1) hw.2.2 (hl.1.trans hml.symm) dX9_requireIndex_8 dX9_requireIndex_11 dX9_requireIndex_12 dX9_requireIndex_15 dX9_requireIndex_18 (fun x h => (htb x h).elim) (by decide) (Nat.le_of_ble_eq_true rfl) (by decide) (by decide) hlk (x_hx hw ⟨rfl, rfl⟩) hw.2.2.2.2 (by decide) (by decide)
def rm_c_X1_plots_g : Room := { frames := 0, cells := 0, slots := 0, locals := 0 }
set_option maxHeartbeats 4000000 in
set_option maxRecDepth 100000 in
theorem c_X1_plots_g (l : Launch) (D : va_G) (cI cZ cB cJ : ClassId) (b0 : Nat) (adK adV : Nat → Nat) (a0 a1 a2 a3 a4 a5 : Nat) (kd : Nat → Int32) (ag : Nat → Int32) (cb : Nat → Nat) (pb : Nat → Nat) (pp : Nat → Nat) (n : Nat) (dr : Bool) : Mi l yX1_plots wsX1_plots rm_c_X1_plots_g D (TYs cI cZ cB cJ) b0 adK adV [.ref a0] [(a0, .inr (1, [.ref a1, .ref a2, .ref a3, .ref a4, .ref a5, .int (nI n), .int (zI dr)])), (a1, .inl (cI, 24, .inl kd)), (a2, .inl (cI, 24, .inl ag)), (a3, .inl (cI, 24, .inl (nF cb))), (a4, .inl (cI, 24, .inl (nF pb))), (a5, .inl (cI, 24, .inl (nF pp)))] (fun (r : Int32) (w : va_W) => r = nI (pl dr n) ∧ w = [(a0, .inr (1, [.ref a1, .ref a2, .ref a3, .ref a4, .ref a5, .int (nI n), .int (zI dr)])), (a1, .inl (cI, 24, .inl kd)), (a2, .inl (cI, 24, .inl ag)), (a3, .inl (cI, 24, .inl (nF cb))), (a4, .inl (cI, 24, .inl (nF pb))), (a5, .inl (cI, 24, .inl (nF pp)))]) 0 0 := by
  refine e_M (Qf := fun A => va_Qi (fun (r : Int32) (w : va_W) => r = nI (pl dr n) ∧ w = [(a0, .inr (1, [.ref a1, .ref a2, .ref a3, .ref a4, .ref a5, .int (nI n), .int (zI dr)])), (a1, .inl (cI, 24, .inl kd)), (a2, .inl (cI, 24, .inl ag)), (a3, .inl (cI, 24, .inl (nF cb))), (a4, .inl (cI, 24, .inl (nF pb))), (a5, .inl (cI, 24, .inl (nF pp)))]) (Bw D A) A) (cc := cX1_plots) (maxL := 1) (ret := (some .int)) (by decide) rfl (Nat.le_of_ble_eq_true rfl) ?_
  intro p e s m args below meth c ls A Q H locs hx hb hr hml hts hown hlk hnm hc hw hl hQ
  have hl : lv_has ls 1 [(0, .ref a0)] := hl
  have in_1 : ∀ w ∈ u_ws RX1 TX1 7, w ∈ wsX1_plots := fun _ h => List.mem_cons_of_mem _ (List.mem_append_right _ h)
  have lk_0 := hts (.fieldLink RX1 31 "PloughingMatch$Entries" "drawn" "Z") (List.mem_of_getElem? (i := 1) rfl)
  have lk_1 := hts (.fieldLink RX1 27 "PloughingMatch$Entries" "size" "I") (List.mem_of_getElem? (i := 2) rfl)
  refine lv_aload_n hx hb dX1_plots_0 rfl (lv_at hl 0 rfl) ?_
  refine w_get (C := RX1) (T := TX1) (N := 7) (ci := 1) hx hb hts in_1 hown hc hw 0 6 rfl rfl (by decide) lk_0 rfl dX1_plots_1 ?_
  refine wz_if_eq (tgt := 14) hx hb dX1_plots_4 (by decide) (fun c_1 => ?_) (fun c_1 => ?_)
  · skip
    refine lv_iconst (v := nI 0) hx hb dX1_plots_14 (by decide) ?_
    subst hQ
    exact r_i hx hb hr rfl hlk hw ⟨(by rw [show pl dr n = 0 by simp [pl, c_1]]), rfl⟩ dX1_plots_15
  · skip
    refine lv_aload_n hx hb dX1_plots_7 rfl (lv_at hl 0 rfl) ?_
    refine w_get (C := RX1) (T := TX1) (N := 7) (ci := 1) hx hb hts in_1 hown hc hw 0 5 rfl rfl (by decide) lk_1 rfl dX1_plots_8 ?_
    refine lv_goto (tgt := 15) hx hb dX1_plots_11 (by decide) ?_
    subst hQ
    exact r_i hx hb hr rfl hlk hw ⟨(by rw [show pl dr n = n by simp [pl, c_1]]), rfl⟩ dX1_plots_15
