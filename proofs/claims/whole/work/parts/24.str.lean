section AM
variable {D : va_G} {tys : List (ClassId × FieldType)} {b0 : Nat} {adK adV : Nat → Nat} {A : Nat → Prop} {s : State} {H : Heap} {locs : List Loc} {ws : va_W}
theorem am_val (hc : Cx D tys b0 adK adV A s) (i : Nat) (hi : i < 7) : va_OF "java/lang/String" "value" "[B" (.ref (adV i)) (adK i) A s s.heap := (hc.2.2.2.2.2.1.1 i hi).2.2.1.narrow hc.2.2.1
theorem am_cod (hc : Cx D tys b0 adK adV A s) (i : Nat) (hi : i < 7) : va_OF "java/lang/String" "coder" "B" (.int 0) (adK i) A s s.heap := (hc.2.2.2.2.2.1.1 i hi).2.1.narrow hc.2.2.1
theorem am_arr (hc : Cx D tys b0 adK adV A s) (i : Nat) (hi : i < 7) : va_T .byte (adV i) (amb_lens.getD i 0) (fun j => .int ((amb_byts.getD i []).getD j 0)) A s s.heap := (hc.2.2.2.2.2.1.1 i hi).2.2.2.narrow hc.2.2.1
theorem am_cs (hc : Cx D tys b0 adK adV A s) : va_Z "java/lang/String" "COMPACT_STRINGS" "Z" (.int 1) A s s.heap := hc.2.2.2.2.2.2.2.2.1.narrow hc.2.2.1
theorem am_si (hc : Cx D tys b0 adK adV A s) : va_Zq "jdk/internal/util/Preconditions" "SIOOBE_FORMATTER" "Ljava/util/function/BiFunction;" A s s.heap := hc.2.2.2.2.2.2.2.2.2.1.narrow hc.2.2.1
theorem am_pz (hc : Cx D tys b0 adK adV A s) : ∃ t : Nat, va_Z RX9 "PRIZES" "[I" (.ref t) A s s.heap ∧ va_T .int t 6 (fun k => .int (amb_prize k)) A s s.heap := by
  obtain ⟨t, h1, h2⟩ := hc.2.2.2.2.2.2.2.2.2.2.2.2.1
  exact ⟨t, h1.narrow hc.2.2.1, h2.narrow hc.2.2.1⟩
theorem am_rec (hc : Cx D tys b0 adK adV A s) (hw : Wd D A s H locs ws) (i : Nat) (hi : i < 7) : ∃ cell : Cell, H[adK i]? = some cell ∧ cell.vm.isStatics = false ∧ s.vm.findClass RJ0 = some cell.cls :=
  vk_recv (hc.2.2.2.2.2.1.narrow hc.2.2.1) hi hw.2.2
theorem am_len (i : Nat) : amb_lens.getD i 0 < 2 ^ 31 := by
  rcases Nat.lt_or_ge i 7 with h | h
  · exact (by decide : ∀ i, i < 7 → amb_lens.getD i 0 < 2 ^ 31) i h
  · rw [List.getD_eq_getElem?_getD, List.getElem?_eq_none (by simpa [amb_lens] using h)]; decide
end AM
section CS
variable {p : Program} {l : Launch} {e : Env} {R : Room} {s : State} {m : MethodId} {args : Array Value} {below : List Frame} {meth : Method} {c : Code} {H : Heap} {locs : List Loc} {cells slots : Nat}
variable {pc : Nat} {ls : Array Slot} {As rest st0 : List Value} {D : va_G} {tys : List (ClassId × FieldType)} {b0 : Nat} {adK adV : Nat → Nat} {A : Nat → Prop} {ws wc : va_W}
variable {y : MethodName} {bytes cc : ByteArray} {maxL nL mc ms n index : Nat} {ret : Option FieldType} {wl Ts : List Cond} {rm : Room} {Qc : Array Value → State → Outcome → State → Prop} {free : Addr → Prop} {own C : String} {b : Addr}
theorem j_VS (S : CallFix p m c cc nL s args Ts own) (hM : Met l y wl rm (Pq D tys b0 adK adV (.ref b :: As) wc H.size) Qc mc ms free) (cw : CallW R s args own C index y bytes maxL ret wl rm mc ms n) (hc : Cx D tys b0 adK adV A s) (hw : Wd D A s H locs ws) (isC : List Nat) (hnC : va_nd isC = true) (hC : isC.map (fun i => ws[i]?) = wc.map some) (hrc : ∃ cell : Cell, H[b]? = some cell ∧ cell.vm.isStatics = false ∧ s.vm.findClass C = some cell.cls)
    (hn : As.length = n) (hsize : ls.size = nL) (hst : st0 = As.reverse ++ .ref b :: rest) (hW : (rest.map fun v => v.category).sum ≤ 8) (hdg : decode cc pc = .ok (.invokevirtual index, 3)) (hf : cells + mc ≤ R.cells ∧ slots + ms ≤ R.slots) :
    va_Run p l e R s m args below meth c H locs cells slots mc ms (F0 m pc ls st0) rest (Qc (Value.ref b :: As).toArray) free :=
  va_runV S hM cw ⟨pq_blind, hrc, cx_pre hc hw isC hnC hC _⟩ rfl hn hsize hst (lv_room hW) hdg hf
end CS
/-- a letter of a word -/
def st_ch (i k : Nat) : Int32 := (amb_byts.getD i []).getD k 0
def st_ln (i : Nat) : Nat := amb_lens.getD i 0
theorem st_ch_and : ∀ i, i < 7 → ∀ k, k < amb_lens.getD i 0 → (((amb_byts.getD i []).getD k 0 &&& nI 255).toUInt32 % 65536).toInt32 = st_ch i k := by decide +kernel
theorem st_ln_le : ∀ i, i < 7 → st_ln i ≤ 7 := by decide
theorem st_ch_let : ∀ i, i < 7 → ∀ k, k < amb_lens.getD i 0 → 97 ≤ st_ch i k ∧ st_ch i k ≤ 122 := by decide +kernel
theorem st_ch_nar : ∀ i, i < 7 → ∀ k, k < amb_lens.getD i 0 → narrow .char (.int (st_ch i k)) = .int (st_ch i k) := by decide +kernel
def rm_c_J3_checkIndex_n : Room := { frames := 0, cells := 0, slots := 0, locals := 0 }
set_option maxHeartbeats 4000000 in
set_option maxRecDepth 100000 in
theorem c_J3_checkIndex_n (l : Launch) (D : va_G) (cI cZ cB cJ : ClassId) (b0 : Nat) (adK adV : Nat → Nat) (k : Nat) (n : Nat) (hk : k < n) (hn : n < 2 ^ 31) : Mi l yJ3_checkIndex_8e157 wsJ3_checkIndex_8e157 rm_c_J3_checkIndex_n D (TYs cI cZ cB cJ) b0 adK adV [.int (nI k), .int (nI n), .null] [] (fun (r : Int32) (w : va_W) => r = nI k ∧ w = []) 0 0 := by
  refine e_F (Qf := fun A => va_Qi (fun (r : Int32) (w : va_W) => r = nI k ∧ w = []) (Bw D A) A) (cc := cJ3_checkIndex_8e157) (maxL := 3) (ret := (some .int)) (by decide +kernel) rfl (Nat.le_of_ble_eq_true rfl) ?_
  intro p e s m args below meth c ls A Q H locs hx hb hr hml hts hown hlk hnm hc hw hl hQ
  have hl : lv_has ls 3 [(0, .int (nI k)), (1, .int (nI n)), (2, .null)] := hl
  refine lv_iload_n hx hb dJ3_checkIndex_8e157_0 rfl (lv_at hl 0 rfl) ?_
  refine wb_if_lt (tgt := 9) hx hb (by omega) dJ3_checkIndex_8e157_1 (by decide) ?_
  refine lv_iload_n hx hb dJ3_checkIndex_8e157_4 rfl (lv_at hl 0 rfl) ?_
  refine lv_iload_n hx hb dJ3_checkIndex_8e157_5 rfl (lv_at hl 1 rfl) ?_
  refine wb_icmp_lt (tgt := 16) hx hb (by omega) (by omega) dJ3_checkIndex_8e157_6 (by decide) (fun c_2 => ?_) (fun c_2 => ?_)
  · skip
    refine lv_iload_n hx hb dJ3_checkIndex_8e157_16 rfl (lv_at hl 0 rfl) ?_
    subst hQ
    exact r_i hx hb hr rfl hlk hw ⟨rfl, rfl⟩ dJ3_checkIndex_8e157_17
  · exact (by omega)
def rm_c_J3_checkIndex_r : Room := { frames := 0, cells := 0, slots := 0, locals := 0 }
set_option maxHeartbeats 4000000 in
set_option maxRecDepth 100000 in
theorem c_J3_checkIndex_r (l : Launch) (D : va_G) (cI cZ cB cJ : ClassId) (b0 : Nat) (adK adV : Nat → Nat) (t : Nat) (k : Nat) (n : Nat) (hk : k < n) (hn : n < 2 ^ 31) : Mi l yJ3_checkIndex_8e157 wsJ3_checkIndex_8e157 rm_c_J3_checkIndex_r D (TYs cI cZ cB cJ) b0 adK adV [.int (nI k), .int (nI n), .ref t] [] (fun (r : Int32) (w : va_W) => r = nI k ∧ w = []) 0 0 := by
  refine e_F (Qf := fun A => va_Qi (fun (r : Int32) (w : va_W) => r = nI k ∧ w = []) (Bw D A) A) (cc := cJ3_checkIndex_8e157) (maxL := 3) (ret := (some .int)) (by decide +kernel) rfl (Nat.le_of_ble_eq_true rfl) ?_
  intro p e s m args below meth c ls A Q H locs hx hb hr hml hts hown hlk hnm hc hw hl hQ
  have hl : lv_has ls 3 [(0, .int (nI k)), (1, .int (nI n)), (2, .ref t)] := hl
  refine lv_iload_n hx hb dJ3_checkIndex_8e157_0 rfl (lv_at hl 0 rfl) ?_
  refine wb_if_lt (tgt := 9) hx hb (by omega) dJ3_checkIndex_8e157_1 (by decide) ?_
  refine lv_iload_n hx hb dJ3_checkIndex_8e157_4 rfl (lv_at hl 0 rfl) ?_
  refine lv_iload_n hx hb dJ3_checkIndex_8e157_5 rfl (lv_at hl 1 rfl) ?_
  refine wb_icmp_lt (tgt := 16) hx hb (by omega) (by omega) dJ3_checkIndex_8e157_6 (by decide) (fun c_2 => ?_) (fun c_2 => ?_)
  · skip
    refine lv_iload_n hx hb dJ3_checkIndex_8e157_16 rfl (lv_at hl 0 rfl) ?_
    subst hQ
    exact r_i hx hb hr rfl hlk hw ⟨rfl, rfl⟩ dJ3_checkIndex_8e157_17
  · exact (by omega)
def rm_c_J0_checkIndex_df160 : Room := { frames := 1, cells := 0, slots := 0, locals := 22 }
set_option maxHeartbeats 4000000 in
set_option maxRecDepth 100000 in
theorem c_J0_checkIndex_df160 (l : Launch) (D : va_G) (cI cZ cB cJ : ClassId) (b0 : Nat) (adK adV : Nat → Nat) (k : Nat) (n : Nat) (hk : k < n) (hn : n < 2 ^ 31) : Mv l yJ0_checkIndex_df160 wsJ0_checkIndex_df160 rm_c_J0_checkIndex_df160 D (TYs cI cZ cB cJ) b0 adK adV [.int (nI k), .int (nI n)] [] (fun w : va_W => w = []) 0 0 := by
  refine e_F (Qf := fun A => va_Qv (fun w : va_W => w = []) (Bw D A) A) (cc := cJ0_checkIndex_df160) (maxL := 2) (ret := none) (by decide +kernel) rfl (Nat.le_of_ble_eq_true rfl) ?_
  intro p e s m args below meth c ls A Q H locs hx hb hr hml hts hown hlk hnm hc hw hl hQ
  have hl : lv_has ls 2 [(0, .int (nI k)), (1, .int (nI n))] := hl
  have lk_0 := hts (.fieldLink RJ0 1053 "jdk/internal/util/Preconditions" "SIOOBE_FORMATTER" "Ljava/util/function/BiFunction;") (List.mem_of_getElem? (i := 1) rfl)
  refine lv_iload_n hx hb dJ0_checkIndex_df160_0 rfl (lv_at hl 0 rfl) ?_
  refine lv_iload_n hx hb dJ0_checkIndex_df160_1 rfl (lv_at hl 1 rfl) ?_
  rcases am_si hc with hz9 | ⟨t9, hz9⟩
  · skip
    refine va_gets hx hb hz9 hw.2.2 hown lk_0 (fun _ h9 => h9) dJ0_checkIndex_df160_2 ?_
    refine k_i (wr := []) (j_S ⟨hx, hb, hml, hown, hts⟩ (c_J3_checkIndex_n l D cI cZ cB cJ b0 adK adV k n (by omega) (by omega) H.size) (va_cwS 3 hts gJ0_checkIndex_df160_J3_checkIndex_8e157 rfl rfl rfl (by decide +kernel) ⟨by decide, by decide⟩) hc hw [] rfl rfl rfl hl.1 rfl (Nat.le_of_ble_eq_true rfl) dJ0_checkIndex_df160_5 ⟨by decide, by decide⟩) hc hw [] [] rfl rfl (by decide) (by decide) (fun r w H locs hq hw => ?_)
    obtain ⟨rfl, rfl⟩ := hq
    have hw : Wd D A s H locs [] := hw
    refine lv_pop hx hb dJ0_checkIndex_df160_8 rfl ?_
    subst hQ
    exact r_v hx hb hr hlk hw rfl dJ0_checkIndex_df160_9
  · skip
    refine va_gets hx hb hz9 hw.2.2 hown lk_0 (fun _ h9 => h9) dJ0_checkIndex_df160_2 ?_
    refine k_i (wr := []) (j_S ⟨hx, hb, hml, hown, hts⟩ (c_J3_checkIndex_r l D cI cZ cB cJ b0 adK adV t9 k n (by omega) (by omega) H.size) (va_cwS 3 hts gJ0_checkIndex_df160_J3_checkIndex_8e157 rfl rfl rfl (by decide +kernel) ⟨by decide, by decide⟩) hc hw [] rfl rfl rfl hl.1 rfl (Nat.le_of_ble_eq_true rfl) dJ0_checkIndex_df160_5 ⟨by decide, by decide⟩) hc hw [] [] rfl rfl (by decide) (by decide) (fun r w H locs hq hw => ?_)
    obtain ⟨rfl, rfl⟩ := hq
    have hw : Wd D A s H locs [] := hw
    refine lv_pop hx hb dJ0_checkIndex_df160_8 rfl ?_
    subst hQ
    exact r_v hx hb hr hlk hw rfl dJ0_checkIndex_df160_9
def rm_c_J1_charAt_3b067 : Room := { frames := 2, cells := 0, slots := 0, locals := 43 }
set_option maxHeartbeats 4000000 in
set_option maxRecDepth 100000 in
theorem c_J1_charAt_3b067 (l : Launch) (D : va_G) (cI cZ cB cJ : ClassId) (b0 : Nat) (adK adV : Nat → Nat) (i : Nat) (k : Nat) (hi : i < 7) (hk : k < amb_lens.getD i 0) : Mi l yJ1_charAt_3b067 wsJ1_charAt_3b067 rm_c_J1_charAt_3b067 D (TYs cI cZ cB cJ) b0 adK adV [.ref (adV i), .int (nI k)] [] (fun (r : Int32) (w : va_W) => r = st_ch i k ∧ w = []) 0 0 := by
  refine e_F (Qf := fun A => va_Qi (fun (r : Int32) (w : va_W) => r = st_ch i k ∧ w = []) (Bw D A) A) (cc := cJ1_charAt_3b067) (maxL := 2) (ret := (some .char)) (by decide +kernel) rfl (Nat.le_of_ble_eq_true rfl) ?_
  intro p e s m args below meth c ls A Q H locs hx hb hr hml hts hown hlk hnm hc hw hl hQ
  have hl : lv_has ls 2 [(0, .ref (adV i)), (1, .int (nI k))] := hl
  refine lv_iload_n hx hb dJ1_charAt_3b067_0 rfl (lv_at hl 1 rfl) ?_
  refine lv_aload_n hx hb dJ1_charAt_3b067_1 rfl (lv_at hl 0 rfl) ?_
  refine va_tlen hx hb (am_arr hc i (by omega)) hw.2.2 rfl dJ1_charAt_3b067_2 ?_
  refine wn_top (y := nI (amb_lens.getD i 0)) rfl ?_
  refine k_v (wr := []) (j_S ⟨hx, hb, hml, hown, hts⟩ (c_J0_checkIndex_df160 l D cI cZ cB cJ b0 adK adV k (amb_lens.getD i 0) hk (am_len _) H.size) (va_cwS 2 hts gJ1_charAt_3b067_J0_checkIndex_df160 rfl rfl rfl (by decide +kernel) ⟨by decide, by decide⟩) hc hw [] rfl rfl rfl hl.1 rfl (Nat.le_of_ble_eq_true rfl) dJ1_charAt_3b067_3 ⟨by decide, by decide⟩) hc hw [] [] rfl rfl (by decide) (by decide) (fun  w H locs hq hw => ?_)
  subst hq
  have hw : Wd D A s H locs [] := hw
  refine lv_aload_n hx hb dJ1_charAt_3b067_6 rfl (lv_at hl 0 rfl) ?_
  refine lv_iload_n hx hb dJ1_charAt_3b067_7 rfl (lv_at hl 1 rfl) ?_
  refine va_tb hx hb (am_arr hc i (by omega)) hw.2.2 (vp_in_nI (n := k) hk (am_len _)) rfl dJ1_charAt_3b067_8 ?_
  refine wn_top (y := (amb_byts.getD i []).getD k 0) (by rw [nI_clamp (Nat.lt_trans hk (am_len _))]) ?_
  refine lv_sipush (v := nI 255) hx hb dJ1_charAt_3b067_9 (by decide) ?_
  refine lv_iand hx hb dJ1_charAt_3b067_12 ?_
  refine lv_i2c (v := ((((amb_byts.getD i []).getD k 0) &&& (nI 255)).toUInt32 % 65536).toInt32) hx hb dJ1_charAt_3b067_13 rfl ?_
  refine wn_top (y := st_ch i k) (st_ch_and i hi k hk) ?_
  subst hQ
  exact r_i hx hb hr (st_ch_nar i hi k hk) hlk hw ⟨rfl, rfl⟩ dJ1_charAt_3b067_14
def rm_c_J0_coder_7d493 : Room := { frames := 0, cells := 0, slots := 0, locals := 0 }
set_option maxHeartbeats 4000000 in
set_option maxRecDepth 100000 in
theorem c_J0_coder_7d493 (l : Launch) (D : va_G) (cI cZ cB cJ : ClassId) (b0 : Nat) (adK adV : Nat → Nat) (i : Nat) (hi : i < 7) : Mi l yJ0_coder_7d493 wsJ0_coder_7d493 rm_c_J0_coder_7d493 D (TYs cI cZ cB cJ) b0 adK adV [.ref (adK i)] [] (fun (r : Int32) (w : va_W) => r = nI 0 ∧ w = []) 0 0 := by
  refine e_F (Qf := fun A => va_Qi (fun (r : Int32) (w : va_W) => r = nI 0 ∧ w = []) (Bw D A) A) (cc := cJ0_coder_7d493) (maxL := 1) (ret := (some .byte)) (by decide +kernel) rfl (Nat.le_of_ble_eq_true rfl) ?_
  intro p e s m args below meth c ls A Q H locs hx hb hr hml hts hown hlk hnm hc hw hl hQ
  have hl : lv_has ls 1 [(0, .ref (adK i))] := hl
  have lk_0 := hts (.fieldLink RJ0 38 "java/lang/String" "COMPACT_STRINGS" "Z") (List.mem_of_getElem? (i := 1) rfl)
  have lk_1 := hts (.fieldLink RJ0 15 "java/lang/String" "coder" "B") (List.mem_of_getElem? (i := 2) rfl)
  refine va_gets hx hb (am_cs hc) hw.2.2 hown lk_0 (fun _ h9 => h9) dJ0_coder_7d493_0 ?_
  refine wn_top (y := nI 1) rfl ?_
  refine wb_if_eq (tgt := 13) hx hb (by decide) dJ0_coder_7d493_3 (by decide) (fun c => absurd c (by decide)) (fun _ => ?_)
  refine lv_aload_n hx hb dJ0_coder_7d493_6 rfl (lv_at hl 0 rfl) ?_
  refine vk_getf hx hb (am_cod hc i (by omega)) hw.2.2 hown lk_1 (fun _ h9 => h9) dJ0_coder_7d493_7 ?_
  refine wn_top (y := nI 0) rfl ?_
  refine lv_goto (tgt := 14) hx hb dJ0_coder_7d493_10 (by decide) ?_
  subst hQ
  exact r_i hx hb hr rfl hlk hw ⟨rfl, rfl⟩ dJ0_coder_7d493_14
def rm_c_J0_isLatin1_aae02 : Room := { frames := 0, cells := 0, slots := 0, locals := 0 }
set_option maxHeartbeats 4000000 in
set_option maxRecDepth 100000 in
theorem c_J0_isLatin1_aae02 (l : Launch) (D : va_G) (cI cZ cB cJ : ClassId) (b0 : Nat) (adK adV : Nat → Nat) (i : Nat) (hi : i < 7) : Mi l yJ0_isLatin1_aae02 wsJ0_isLatin1_aae02 rm_c_J0_isLatin1_aae02 D (TYs cI cZ cB cJ) b0 adK adV [.ref (adK i)] [] (fun (r : Int32) (w : va_W) => r = zI true ∧ w = []) 0 0 := by
  refine e_F (Qf := fun A => va_Qi (fun (r : Int32) (w : va_W) => r = zI true ∧ w = []) (Bw D A) A) (cc := cJ0_isLatin1_aae02) (maxL := 1) (ret := (some .boolean)) (by decide +kernel) rfl (Nat.le_of_ble_eq_true rfl) ?_
  intro p e s m args below meth c ls A Q H locs hx hb hr hml hts hown hlk hnm hc hw hl hQ
  have hl : lv_has ls 1 [(0, .ref (adK i))] := hl
  have lk_0 := hts (.fieldLink RJ0 38 "java/lang/String" "COMPACT_STRINGS" "Z") (List.mem_of_getElem? (i := 1) rfl)
  have lk_1 := hts (.fieldLink RJ0 15 "java/lang/String" "coder" "B") (List.mem_of_getElem? (i := 2) rfl)
  refine va_gets hx hb (am_cs hc) hw.2.2 hown lk_0 (fun _ h9 => h9) dJ0_isLatin1_aae02_0 ?_
  refine wn_top (y := nI 1) rfl ?_
  refine wb_if_eq (tgt := 17) hx hb (by decide) dJ0_isLatin1_aae02_3 (by decide) (fun c => absurd c (by decide)) (fun _ => ?_)
  refine lv_aload_n hx hb dJ0_isLatin1_aae02_6 rfl (lv_at hl 0 rfl) ?_
  refine vk_getf hx hb (am_cod hc i (by omega)) hw.2.2 hown lk_1 (fun _ h9 => h9) dJ0_isLatin1_aae02_7 ?_
  refine wn_top (y := nI 0) rfl ?_
  refine wb_if_ne (tgt := 17) hx hb (by decide) dJ0_isLatin1_aae02_10 (by decide) (fun c => absurd c (by decide)) (fun _ => ?_)
  refine lv_iconst (v := nI 1) hx hb dJ0_isLatin1_aae02_13 (by decide) ?_
  refine lv_goto (tgt := 18) hx hb dJ0_isLatin1_aae02_14 (by decide) ?_
  subst hQ
  exact r_i hx hb hr rfl hlk hw ⟨rfl, rfl⟩ dJ0_isLatin1_aae02_18
def rm_c_J0_length_8abf5 : Room := { frames := 1, cells := 0, slots := 0, locals := 20 }
set_option maxHeartbeats 4000000 in
set_option maxRecDepth 100000 in
theorem c_J0_length_8abf5 (l : Launch) (D : va_G) (cI cZ cB cJ : ClassId) (b0 : Nat) (adK adV : Nat → Nat) (i : Nat) (hi : i < 7) : Mi l yJ0_length_8abf5 wsJ0_length_8abf5 rm_c_J0_length_8abf5 D (TYs cI cZ cB cJ) b0 adK adV [.ref (adK i)] [] (fun (r : Int32) (w : va_W) => r = nI (amb_lens.getD i 0) ∧ w = []) 0 0 := by
  refine e_F (Qf := fun A => va_Qi (fun (r : Int32) (w : va_W) => r = nI (amb_lens.getD i 0) ∧ w = []) (Bw D A) A) (cc := cJ0_length_8abf5) (maxL := 1) (ret := (some .int)) (by decide +kernel) rfl (Nat.le_of_ble_eq_true rfl) ?_
  intro p e s m args below meth c ls A Q H locs hx hb hr hml hts hown hlk hnm hc hw hl hQ
  have hl : lv_has ls 1 [(0, .ref (adK i))] := hl
  have lk_0 := hts (.fieldLink RJ0 9 "java/lang/String" "value" "[B") (List.mem_of_getElem? (i := 1) rfl)
  refine lv_aload_n hx hb dJ0_length_8abf5_0 rfl (lv_at hl 0 rfl) ?_
  refine vk_getf hx hb (am_val hc i (by omega)) hw.2.2 hown lk_0 (fun _ h9 => h9) dJ0_length_8abf5_1 ?_
  refine va_tlen hx hb (am_arr hc i (by omega)) hw.2.2 rfl dJ0_length_8abf5_4 ?_
  refine wn_top (y := nI (amb_lens.getD i 0)) rfl ?_
  refine lv_aload_n hx hb dJ0_length_8abf5_5 rfl (lv_at hl 0 rfl) ?_
  refine k_i (wr := []) (j_VS ⟨hx, hb, hml, hown, hts⟩ (c_J0_coder_7d493 l D cI cZ cB cJ b0 adK adV i (by omega) H.size) (cwV 0 hts gJ0_length_8abf5_J0_coder_7d493 rfl rfl rfl (by decide +kernel) ⟨by decide, by decide⟩) hc hw [] rfl rfl (am_rec hc hw _ (by omega)) rfl hl.1 rfl (Nat.le_of_ble_eq_true rfl) dJ0_length_8abf5_6 ⟨by decide, by decide⟩) hc hw [] [] rfl rfl (by decide) (by decide) (fun r w H locs hq hw => ?_)
  obtain ⟨rfl, rfl⟩ := hq
  have hw : Wd D A s H locs [] := hw
  refine lv_ishr hx hb dJ0_length_8abf5_9 ?_
  refine wn_top (y := nI (amb_lens.getD i 0)) (sb_shr0 _) ?_
  subst hQ
  exact r_i hx hb hr rfl hlk hw ⟨rfl, rfl⟩ dJ0_length_8abf5_10
def rm_c_J0_charAt_5068e : Room := { frames := 3, cells := 0, slots := 0, locals := 64 }
set_option maxHeartbeats 4000000 in
set_option maxRecDepth 100000 in
theorem c_J0_charAt_5068e (l : Launch) (D : va_G) (cI cZ cB cJ : ClassId) (b0 : Nat) (adK adV : Nat → Nat) (i : Nat) (k : Nat) (hi : i < 7) (hk : k < amb_lens.getD i 0) : Mi l yJ0_charAt_5068e wsJ0_charAt_5068e rm_c_J0_charAt_5068e D (TYs cI cZ cB cJ) b0 adK adV [.ref (adK i), .int (nI k)] [] (fun (r : Int32) (w : va_W) => r = st_ch i k ∧ w = []) 0 0 := by
  refine e_F (Qf := fun A => va_Qi (fun (r : Int32) (w : va_W) => r = st_ch i k ∧ w = []) (Bw D A) A) (cc := cJ0_charAt_5068e) (maxL := 2) (ret := (some .char)) (by decide +kernel) rfl (Nat.le_of_ble_eq_true rfl) ?_
  intro p e s m args below meth c ls A Q H locs hx hb hr hml hts hown hlk hnm hc hw hl hQ
  have hl : lv_has ls 2 [(0, .ref (adK i)), (1, .int (nI k))] := hl
  have lk_0 := hts (.fieldLink RJ0 9 "java/lang/String" "value" "[B") (List.mem_of_getElem? (i := 1) rfl)
  refine lv_aload_n hx hb dJ0_charAt_5068e_0 rfl (lv_at hl 0 rfl) ?_
  refine k_i (wr := []) (j_VS ⟨hx, hb, hml, hown, hts⟩ (c_J0_isLatin1_aae02 l D cI cZ cB cJ b0 adK adV i (by omega) H.size) (cwV 0 hts gJ0_charAt_5068e_J0_isLatin1_aae02 rfl rfl rfl (by decide +kernel) ⟨by decide, by decide⟩) hc hw [] rfl rfl (am_rec hc hw _ (by omega)) rfl hl.1 rfl (Nat.le_of_ble_eq_true rfl) dJ0_charAt_5068e_1 ⟨by decide, by decide⟩) hc hw [] [] rfl rfl (by decide) (by decide) (fun r w H locs hq hw => ?_)
  obtain ⟨rfl, rfl⟩ := hq
  have hw : Wd D A s H locs [] := hw
  refine wz_if_eq (tgt := 16) hx hb dJ0_charAt_5068e_4 (by decide) (fun c => absurd c (by decide)) (fun _ => ?_)
  refine lv_aload_n hx hb dJ0_charAt_5068e_7 rfl (lv_at hl 0 rfl) ?_
  refine vk_getf hx hb (am_val hc i (by omega)) hw.2.2 hown lk_0 (fun _ h9 => h9) dJ0_charAt_5068e_8 ?_
  refine lv_iload_n hx hb dJ0_charAt_5068e_11 rfl (lv_at hl 1 rfl) ?_
  refine k_i (wr := []) (j_S ⟨hx, hb, hml, hown, hts⟩ (c_J1_charAt_3b067 l D cI cZ cB cJ b0 adK adV i k (by omega) hk H.size) (va_cwS 2 hts gJ0_charAt_5068e_J1_charAt_3b067 rfl rfl rfl (by decide +kernel) ⟨by decide, by decide⟩) hc hw [] rfl rfl rfl hl.1 rfl (Nat.le_of_ble_eq_true rfl) dJ0_charAt_5068e_12 ⟨by decide, by decide⟩) hc hw [] [] rfl rfl (by decide) (by decide) (fun r w H locs hq hw => ?_)
  obtain ⟨rfl, rfl⟩ := hq
  have hw : Wd D A s H locs [] := hw
  subst hQ
  exact r_i hx hb hr (st_ch_nar i hi k hk) hlk hw ⟨rfl, rfl⟩ dJ0_charAt_5068e_15
