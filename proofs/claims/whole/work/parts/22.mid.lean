/-- a byte of a number -/
def tp_n (x : Int32) (sh : Nat) : Nat := x.toBitVec.toNat / 2 ^ sh % 256
theorem tp_n_lt (x : Int32) (sh : Nat) : tp_n x sh < 256 := Nat.mod_lt _ (by decide)
theorem tp_eq (x : Int32) (sh : Nat) (_ : sh < 32) (hs : (((nI sh).toUInt32 &&& Int32.toUInt32 31).toBitVec % 32).toNat = sh) : (x.toUInt32 >>> ((nI sh).toUInt32 &&& Int32.toUInt32 31)).toInt32 &&& nI 255 = nI (tp_n x sh) := by
  rw [pk_and _ 8 (by decide), pk_ushr x (nI sh) sh hs]; rfl
def tp4 (f : Nat → Nat) (n : Nat) (x : Int32) : Nat → Nat := va_up (va_up (va_up (va_up f n (tp_n x 24)) (n + 1) (tp_n x 16)) (n + 1 + 1) (tp_n x 8)) (n + 1 + 1 + 1) (tp_n x 0)
/-- one exchange of the draw, and the first j of them -/
def dr_step (nz : Nat → Int32) (n : Nat) (f : Nat → Nat) (j : Nat) : Nat → Nat :=
  va_up (va_up f (n - 1 - j) (f (ns_rem (nz j) (n - 1 - j + 1)))) (ns_rem (nz j) (n - 1 - j + 1)) (f (n - 1 - j))
def dr_sw (nz : Nat → Int32) (n : Nat) (f : Nat → Nat) : Nat → Nat → Nat
  | 0 => f
  | j + 1 => dr_step nz n (dr_sw nz n f j) j
def dr_pb (nz : Nat → Int32) (n : Nat) (f : Nat → Nat) : Nat → Nat := dr_sw nz n (fa_fill (fun k => k) f n) (n - 1)
def dr_inv (f pp : Nat → Nat) : Nat → Nat → Nat
  | 0 => pp
  | k + 1 => va_up (dr_inv f pp k) (f k) k
theorem dr_sw_lt {nz : Nat → Int32} {n : Nat} {f : Nat → Nat} (h : ∀ k, k < n → f k < n) : ∀ j, j < n → ∀ k, k < n → dr_sw nz n f j k < n
  | 0, _, k, hk => h k hk
  | j + 1, hj, k, hk => by
    have ih := dr_sw_lt (nz := nz) h j (by omega)
    have ho : ns_rem (nz j) (n - 1 - j + 1) < n := Nat.lt_of_lt_of_le (ns_rem_lt _ (by omega)) (by omega)
    simp only [dr_sw, dr_step, va_up]
    split
    · exact ih _ (by omega)
    · split
      · exact ih _ ho
      · exact ih _ hk
theorem dr_pb_lt {nz : Nat → Int32} {n : Nat} {f : Nat → Nat} {k : Nat} (hk : k < n) : dr_pb nz n f k < n :=
  dr_sw_lt (fun k hk => by rw [fa_fill_in hk]; exact hk) (n - 1) (by omega) k hk
/-- minutes begun above the limit -/
def rs_ot (m a : Int32) : Int32 := if m - a ≤ 0 then nI 0 else (m - a + nI 4) / nI 5 * nI 50
def rm_c_X8_append : Room := { frames := 0, cells := 0, slots := 0, locals := 0 }
set_option maxHeartbeats 4000000 in
set_option maxRecDepth 100000 in
theorem c_X8_append (l : Launch) (D : va_G) (cI cZ cB cJ : ClassId) (b0 : Nat) (adK adV : Nat → Nat) (a0 a1 : Nat) (bt : Nat → Nat) (n : Nat) (x : Int32) (hn : n + 4 ≤ 100) : Mv l yX8_append wsX8_append rm_c_X8_append D (TYs cI cZ cB cJ) b0 adK adV [.ref a0, .int x] [(a0, .inr (8, [.ref a1, .int (nI n)])), (a1, .inl (cI, 100, .inl (nF bt)))] (fun w : va_W => w = [(a0, .inr (8, [.ref a1, .int (nI (n + 4))])), (a1, .inl (cI, 100, .inl (nF (tp4 bt n x))))]) 0 0 := by
  refine e_M (Qf := fun A => va_Qv (fun w : va_W => w = [(a0, .inr (8, [.ref a1, .int (nI (n + 4))])), (a1, .inl (cI, 100, .inl (nF (tp4 bt n x))))]) (Bw D A) A) (cc := cX8_append) (maxL := 3) (ret := none) (by decide) rfl (Nat.le_of_ble_eq_true rfl) ?_
  intro p e s m args below meth c ls A Q H locs hx hb hr hml hts hown hlk hnm hc hw hl hQ
  have hl : lv_has ls 3 [(0, .ref a0), (1, .int x)] := hl
  have in_8 : ∀ w ∈ u_ws RX8 TX8 2, w ∈ wsX8_append := fun _ h => List.mem_cons_of_mem _ (List.mem_append_right _ h)
  have lk_0 := hts (.fieldLink RX8 15 "PloughingMatch$Tape" "size" "I") (List.mem_of_getElem? (i := 1) rfl)
  have lk_1 := hts (.fieldLink RX8 9 "PloughingMatch$Tape" "bytes" "[I") (List.mem_of_getElem? (i := 2) rfl)
  refine lv_bipush (v := nI 24) hx hb dX8_append_0 (by decide) ?_
  refine lv_istore_n (lv' := [(2, .int (nI 24)), (0, .ref a0), (1, .int x)]) hx hb dX8_append_2 rfl hl (by decide) rfl (fun ls hl => ?_)
  refine lv_iload_n hx hb dX8_append_3 rfl (lv_at hl 0 rfl) ?_
  refine wb_if_lt (tgt := 48) hx hb (by omega) dX8_append_4 (by decide) ?_
  refine lv_aload_n hx hb dX8_append_7 rfl (lv_at hl 1 rfl) ?_
  refine w_get (C := RX8) (T := TX8) (N := 2) (ci := 8) hx hb hts in_8 hown hc hw 0 1 rfl rfl (by decide) lk_0 rfl dX8_append_8 ?_
  refine lv_bipush (v := nI 100) hx hb dX8_append_11 (by decide) ?_
  refine wb_icmp_ge (tgt := 48) hx hb (by omega) (by omega) dX8_append_13 (by decide) (fun c_2 => ?_) (fun c_2 => ?_)
  · exact (by omega)
  · skip
    refine lv_aload_n hx hb dX8_append_16 rfl (lv_at hl 1 rfl) ?_
    refine w_get (C := RX8) (T := TX8) (N := 2) (ci := 8) hx hb hts in_8 hown hc hw 0 0 rfl rfl (by decide) lk_1 rfl dX8_append_17 ?_
    refine lv_aload_n hx hb dX8_append_20 rfl (lv_at hl 1 rfl) ?_
    refine w_get (C := RX8) (T := TX8) (N := 2) (ci := 8) hx hb hts in_8 hown hc hw 0 1 rfl rfl (by decide) lk_0 rfl dX8_append_21 ?_
    refine lv_iload_n hx hb dX8_append_24 rfl (lv_at hl 2 rfl) ?_
    refine lv_iload_n hx hb dX8_append_25 rfl (lv_at hl 0 rfl) ?_
    refine lv_iushr (v := (x.toUInt32 >>> ((nI 24).toUInt32 &&& Int32.toUInt32 31)).toInt32) hx hb dX8_append_26 rfl ?_
    refine lv_sipush (v := nI 255) hx hb dX8_append_27 (by decide) ?_
    refine lv_iand hx hb dX8_append_30 ?_
    refine wn_top (y := nI (tp_n x 24)) (tp_eq x 24 (by decide) (by decide)) ?_
    refine w_iast (ws1 := [(a0, .inr (8, [.ref a1, .int (nI n)])), (a1, .inl (cI, 100, .inl (nF (va_up bt n (tp_n x 24)))))]) hx hb hc hw 1 rfl rfl (i := n) (by omega) (by decide) (by rw [nF_upd]; rfl) dX8_append_31 (fun H locs hw => ?_)
    refine lv_aload_n hx hb dX8_append_32 rfl (lv_at hl 1 rfl) ?_
    refine lv_dup hx hb dX8_append_33 rfl ?_
    refine w_get (C := RX8) (T := TX8) (N := 2) (ci := 8) hx hb hts in_8 hown hc hw 0 1 rfl rfl (by decide) lk_0 rfl dX8_append_34 ?_
    refine lv_iconst (v := nI 1) hx hb dX8_append_37 (by decide) ?_
    refine wn_iadd hx hb dX8_append_38 ?_
    refine w_put (C := RX8) (T := TX8) (N := 2) (ci := 8) (v := .int (nI (n + 1))) (ws1 := [(a0, .inr (8, [.ref a1, .int (nI (n + 1))])), (a1, .inl (cI, 100, .inl (nF (va_up bt n (tp_n x 24)))))]) hx hb hts in_8 tyX8 tyX8_ok nmX8 hown hc hw 0 1 rfl rfl (by decide) lk_0 rfl rfl rfl (Nat.le_of_ble_eq_true rfl) rfl dX8_append_39 (fun H locs hw => ?_)
    refine lv_iinc (v := nI 16) (lv' := [(2, .int (nI 16)), (0, .ref a0), (1, .int x)]) hx hb dX8_append_42 hl (k := 0) rfl (by decide) (by decide) rfl (fun ls hl => ?_)
    refine lv_goto (tgt := 3) hx hb dX8_append_45 (by decide) ?_
    refine lv_iload_n hx hb dX8_append_3 rfl (lv_at hl 0 rfl) ?_
    refine wb_if_lt (tgt := 48) hx hb (by omega) dX8_append_4 (by decide) ?_
    refine lv_aload_n hx hb dX8_append_7 rfl (lv_at hl 1 rfl) ?_
    refine w_get (C := RX8) (T := TX8) (N := 2) (ci := 8) hx hb hts in_8 hown hc hw 0 1 rfl rfl (by decide) lk_0 rfl dX8_append_8 ?_
    refine lv_bipush (v := nI 100) hx hb dX8_append_11 (by decide) ?_
    refine wb_icmp_ge (tgt := 48) hx hb (by omega) (by omega) dX8_append_13 (by decide) (fun c_4 => ?_) (fun c_4 => ?_)
    · exact (by omega)
    · skip
      refine lv_aload_n hx hb dX8_append_16 rfl (lv_at hl 1 rfl) ?_
      refine w_get (C := RX8) (T := TX8) (N := 2) (ci := 8) hx hb hts in_8 hown hc hw 0 0 rfl rfl (by decide) lk_1 rfl dX8_append_17 ?_
      refine lv_aload_n hx hb dX8_append_20 rfl (lv_at hl 1 rfl) ?_
      refine w_get (C := RX8) (T := TX8) (N := 2) (ci := 8) hx hb hts in_8 hown hc hw 0 1 rfl rfl (by decide) lk_0 rfl dX8_append_21 ?_
      refine lv_iload_n hx hb dX8_append_24 rfl (lv_at hl 2 rfl) ?_
      refine lv_iload_n hx hb dX8_append_25 rfl (lv_at hl 0 rfl) ?_
      refine lv_iushr (v := (x.toUInt32 >>> ((nI 16).toUInt32 &&& Int32.toUInt32 31)).toInt32) hx hb dX8_append_26 rfl ?_
      refine lv_sipush (v := nI 255) hx hb dX8_append_27 (by decide) ?_
      refine lv_iand hx hb dX8_append_30 ?_
      refine wn_top (y := nI (tp_n x 16)) (tp_eq x 16 (by decide) (by decide)) ?_
      refine w_iast (ws1 := [(a0, .inr (8, [.ref a1, .int (nI (n + 1))])), (a1, .inl (cI, 100, .inl (nF (va_up (va_up bt n (tp_n x 24)) (n + 1) (tp_n x 16)))))]) hx hb hc hw 1 rfl rfl (i := n + 1) (by omega) (by decide) (by rw [nF_upd]; rfl) dX8_append_31 (fun H locs hw => ?_)
      refine lv_aload_n hx hb dX8_append_32 rfl (lv_at hl 1 rfl) ?_
      refine lv_dup hx hb dX8_append_33 rfl ?_
      refine w_get (C := RX8) (T := TX8) (N := 2) (ci := 8) hx hb hts in_8 hown hc hw 0 1 rfl rfl (by decide) lk_0 rfl dX8_append_34 ?_
      refine lv_iconst (v := nI 1) hx hb dX8_append_37 (by decide) ?_
      refine wn_iadd hx hb dX8_append_38 ?_
      refine w_put (C := RX8) (T := TX8) (N := 2) (ci := 8) (v := .int (nI (n + 1 + 1))) (ws1 := [(a0, .inr (8, [.ref a1, .int (nI (n + 1 + 1))])), (a1, .inl (cI, 100, .inl (nF (va_up (va_up bt n (tp_n x 24)) (n + 1) (tp_n x 16)))))]) hx hb hts in_8 tyX8 tyX8_ok nmX8 hown hc hw 0 1 rfl rfl (by decide) lk_0 rfl rfl rfl (Nat.le_of_ble_eq_true rfl) rfl dX8_append_39 (fun H locs hw => ?_)
      refine lv_iinc (v := nI 8) (lv' := [(2, .int (nI 8)), (0, .ref a0), (1, .int x)]) hx hb dX8_append_42 hl (k := 0) rfl (by decide) (by decide) rfl (fun ls hl => ?_)
      refine lv_goto (tgt := 3) hx hb dX8_append_45 (by decide) ?_
      refine lv_iload_n hx hb dX8_append_3 rfl (lv_at hl 0 rfl) ?_
      refine wb_if_lt (tgt := 48) hx hb (by omega) dX8_append_4 (by decide) ?_
      refine lv_aload_n hx hb dX8_append_7 rfl (lv_at hl 1 rfl) ?_
      refine w_get (C := RX8) (T := TX8) (N := 2) (ci := 8) hx hb hts in_8 hown hc hw 0 1 rfl rfl (by decide) lk_0 rfl dX8_append_8 ?_
      refine lv_bipush (v := nI 100) hx hb dX8_append_11 (by decide) ?_
      refine wb_icmp_ge (tgt := 48) hx hb (by omega) (by omega) dX8_append_13 (by decide) (fun c_6 => ?_) (fun c_6 => ?_)
      · exact (by omega)
      · skip
        refine lv_aload_n hx hb dX8_append_16 rfl (lv_at hl 1 rfl) ?_
        refine w_get (C := RX8) (T := TX8) (N := 2) (ci := 8) hx hb hts in_8 hown hc hw 0 0 rfl rfl (by decide) lk_1 rfl dX8_append_17 ?_
        refine lv_aload_n hx hb dX8_append_20 rfl (lv_at hl 1 rfl) ?_
        refine w_get (C := RX8) (T := TX8) (N := 2) (ci := 8) hx hb hts in_8 hown hc hw 0 1 rfl rfl (by decide) lk_0 rfl dX8_append_21 ?_
        refine lv_iload_n hx hb dX8_append_24 rfl (lv_at hl 2 rfl) ?_
        refine lv_iload_n hx hb dX8_append_25 rfl (lv_at hl 0 rfl) ?_
        refine lv_iushr (v := (x.toUInt32 >>> ((nI 8).toUInt32 &&& Int32.toUInt32 31)).toInt32) hx hb dX8_append_26 rfl ?_
        refine lv_sipush (v := nI 255) hx hb dX8_append_27 (by decide) ?_
        refine lv_iand hx hb dX8_append_30 ?_
        refine wn_top (y := nI (tp_n x 8)) (tp_eq x 8 (by decide) (by decide)) ?_
        refine w_iast (ws1 := [(a0, .inr (8, [.ref a1, .int (nI (n + 1 + 1))])), (a1, .inl (cI, 100, .inl (nF (va_up (va_up (va_up bt n (tp_n x 24)) (n + 1) (tp_n x 16)) (n + 1 + 1) (tp_n x 8)))))]) hx hb hc hw 1 rfl rfl (i := n + 1 + 1) (by omega) (by decide) (by rw [nF_upd]; rfl) dX8_append_31 (fun H locs hw => ?_)
        refine lv_aload_n hx hb dX8_append_32 rfl (lv_at hl 1 rfl) ?_
        refine lv_dup hx hb dX8_append_33 rfl ?_
        refine w_get (C := RX8) (T := TX8) (N := 2) (ci := 8) hx hb hts in_8 hown hc hw 0 1 rfl rfl (by decide) lk_0 rfl dX8_append_34 ?_
        refine lv_iconst (v := nI 1) hx hb dX8_append_37 (by decide) ?_
        refine wn_iadd hx hb dX8_append_38 ?_
        refine w_put (C := RX8) (T := TX8) (N := 2) (ci := 8) (v := .int (nI (n + 1 + 1 + 1))) (ws1 := [(a0, .inr (8, [.ref a1, .int (nI (n + 1 + 1 + 1))])), (a1, .inl (cI, 100, .inl (nF (va_up (va_up (va_up bt n (tp_n x 24)) (n + 1) (tp_n x 16)) (n + 1 + 1) (tp_n x 8)))))]) hx hb hts in_8 tyX8 tyX8_ok nmX8 hown hc hw 0 1 rfl rfl (by decide) lk_0 rfl rfl rfl (Nat.le_of_ble_eq_true rfl) rfl dX8_append_39 (fun H locs hw => ?_)
        refine lv_iinc (v := nI 0) (lv' := [(2, .int (nI 0)), (0, .ref a0), (1, .int x)]) hx hb dX8_append_42 hl (k := 0) rfl (by decide) (by decide) rfl (fun ls hl => ?_)
        refine lv_goto (tgt := 3) hx hb dX8_append_45 (by decide) ?_
        refine lv_iload_n hx hb dX8_append_3 rfl (lv_at hl 0 rfl) ?_
        refine wb_if_lt (tgt := 48) hx hb (by omega) dX8_append_4 (by decide) ?_
        refine lv_aload_n hx hb dX8_append_7 rfl (lv_at hl 1 rfl) ?_
        refine w_get (C := RX8) (T := TX8) (N := 2) (ci := 8) hx hb hts in_8 hown hc hw 0 1 rfl rfl (by decide) lk_0 rfl dX8_append_8 ?_
        refine lv_bipush (v := nI 100) hx hb dX8_append_11 (by decide) ?_
        refine wb_icmp_ge (tgt := 48) hx hb (by omega) (by omega) dX8_append_13 (by decide) (fun c_8 => ?_) (fun c_8 => ?_)
        · exact (by omega)
        · skip
          refine lv_aload_n hx hb dX8_append_16 rfl (lv_at hl 1 rfl) ?_
          refine w_get (C := RX8) (T := TX8) (N := 2) (ci := 8) hx hb hts in_8 hown hc hw 0 0 rfl rfl (by decide) lk_1 rfl dX8_append_17 ?_
          refine lv_aload_n hx hb dX8_append_20 rfl (lv_at hl 1 rfl) ?_
          refine w_get (C := RX8) (T := TX8) (N := 2) (ci := 8) hx hb hts in_8 hown hc hw 0 1 rfl rfl (by decide) lk_0 rfl dX8_append_21 ?_
          refine lv_iload_n hx hb dX8_append_24 rfl (lv_at hl 2 rfl) ?_
          refine lv_iload_n hx hb dX8_append_25 rfl (lv_at hl 0 rfl) ?_
          refine lv_iushr (v := (x.toUInt32 >>> ((nI 0).toUInt32 &&& Int32.toUInt32 31)).toInt32) hx hb dX8_append_26 rfl ?_
          refine lv_sipush (v := nI 255) hx hb dX8_append_27 (by decide) ?_
          refine lv_iand hx hb dX8_append_30 ?_
          refine wn_top (y := nI (tp_n x 0)) (tp_eq x 0 (by decide) (by decide)) ?_
          refine w_iast (ws1 := [(a0, .inr (8, [.ref a1, .int (nI (n + 1 + 1 + 1))])), (a1, .inl (cI, 100, .inl (nF (va_up (va_up (va_up (va_up bt n (tp_n x 24)) (n + 1) (tp_n x 16)) (n + 1 + 1) (tp_n x 8)) (n + 1 + 1 + 1) (tp_n x 0)))))]) hx hb hc hw 1 rfl rfl (i := n + 1 + 1 + 1) (by omega) (by decide) (by rw [nF_upd]; rfl) dX8_append_31 (fun H locs hw => ?_)
          refine lv_aload_n hx hb dX8_append_32 rfl (lv_at hl 1 rfl) ?_
          refine lv_dup hx hb dX8_append_33 rfl ?_
          refine w_get (C := RX8) (T := TX8) (N := 2) (ci := 8) hx hb hts in_8 hown hc hw 0 1 rfl rfl (by decide) lk_0 rfl dX8_append_34 ?_
          refine lv_iconst (v := nI 1) hx hb dX8_append_37 (by decide) ?_
          refine wn_iadd hx hb dX8_append_38 ?_
          refine w_put (C := RX8) (T := TX8) (N := 2) (ci := 8) (v := .int (nI (n + 1 + 1 + 1 + 1))) (ws1 := [(a0, .inr (8, [.ref a1, .int (nI (n + 1 + 1 + 1 + 1))])), (a1, .inl (cI, 100, .inl (nF (va_up (va_up (va_up (va_up bt n (tp_n x 24)) (n + 1) (tp_n x 16)) (n + 1 + 1) (tp_n x 8)) (n + 1 + 1 + 1) (tp_n x 0)))))]) hx hb hts in_8 tyX8 tyX8_ok nmX8 hown hc hw 0 1 rfl rfl (by decide) lk_0 rfl rfl rfl (Nat.le_of_ble_eq_true rfl) rfl dX8_append_39 (fun H locs hw => ?_)
          refine lv_iinc (v := (-8)) (lv' := [(2, .int (-8)), (0, .ref a0), (1, .int x)]) hx hb dX8_append_42 hl (k := 0) rfl (by decide) (by decide) rfl (fun ls hl => ?_)
          refine lv_goto (tgt := 3) hx hb dX8_append_45 (by decide) ?_
          refine lv_iload_n hx hb dX8_append_3 rfl (lv_at hl 0 rfl) ?_
          refine lv_if_lt (tgt := 48) hx hb dX8_append_4 (by decide) (fun _ => ?_) (fun c => absurd (by decide) c)
          subst hQ
          exact r_v hx hb hr hlk hw rfl dX8_append_48
def rm_c_X1_init : Room := { frames := 1, cells := 5, slots := 120, locals := 12 }
set_option maxHeartbeats 4000000 in
set_option maxRecDepth 100000 in
theorem c_X1_init (l : Launch) (D : va_G) (cI cZ cB cJ : ClassId) (b0 : Nat) (adK adV : Nat → Nat) (a0 : Nat) : Mv l yX1_init wsX1_init rm_c_X1_init D (TYs cI cZ cB cJ) b0 adK adV [.ref a0] [(a0, .inr (1, [.null, .null, .null, .null, .null, .int (nI 0), .int (nI 0)]))] (fun w : va_W => ∃ (a1 : Nat) (a2 : Nat) (a3 : Nat) (a4 : Nat) (a5 : Nat), w = [(a0, .inr (1, [.ref a1, .ref a2, .ref a3, .ref a4, .ref a5, .int (nI 0), .int (zI false)])), (a1, .inl (cI, 24, .inl (fun _ => 0))), (a2, .inl (cI, 24, .inl (fun _ => 0))), (a3, .inl (cI, 24, .inl (nF (fun _ => 0)))), (a4, .inl (cI, 24, .inl (nF (fun _ => 0)))), (a5, .inl (cI, 24, .inl (nF (fun _ => 0))))]) 5 120 := by
  refine e_M (Qf := fun A => va_Qv (fun w : va_W => ∃ (a1 : Nat) (a2 : Nat) (a3 : Nat) (a4 : Nat) (a5 : Nat), w = [(a0, .inr (1, [.ref a1, .ref a2, .ref a3, .ref a4, .ref a5, .int (nI 0), .int (zI false)])), (a1, .inl (cI, 24, .inl (fun _ => 0))), (a2, .inl (cI, 24, .inl (fun _ => 0))), (a3, .inl (cI, 24, .inl (nF (fun _ => 0)))), (a4, .inl (cI, 24, .inl (nF (fun _ => 0)))), (a5, .inl (cI, 24, .inl (nF (fun _ => 0))))]) (Bw D A) A) (cc := cX1_init) (maxL := 1) (ret := none) (by decide) rfl (Nat.le_of_ble_eq_true rfl) ?_
  intro p e s m args below meth c ls A Q H locs hx hb hr hml hts hown hlk hnm hc hw hl hQ
  have hl : lv_has ls 1 [(0, .ref a0)] := hl
  have in_1 : ∀ w ∈ u_ws RX1 TX1 7, w ∈ wsX1_init := fun _ h => List.mem_cons_of_mem _ (List.mem_append_right _ h)
  have lk_0 := hts (.methodLink RX1 3 objectInit) (List.mem_of_getElem? (i := 1) rfl)
  have lk_1 := hts (.instanceMethod objectInit) (List.mem_of_getElem? (i := 2) rfl)
  have lk_2 := hts (.arrayClass .int) (List.mem_of_getElem? (i := 4) rfl)
  have lk_3 := hts (.fieldLink RX1 9 "PloughingMatch$Entries" "kinds" "[I") (List.mem_of_getElem? (i := 5) rfl)
  have lk_4 := hts (.fieldLink RX1 15 "PloughingMatch$Entries" "ages" "[I") (List.mem_of_getElem? (i := 6) rfl)
  have lk_5 := hts (.fieldLink RX1 18 "PloughingMatch$Entries" "clubs" "[I") (List.mem_of_getElem? (i := 7) rfl)
  have lk_6 := hts (.fieldLink RX1 21 "PloughingMatch$Entries" "plotByPloughman" "[I") (List.mem_of_getElem? (i := 8) rfl)
  have lk_7 := hts (.fieldLink RX1 24 "PloughingMatch$Entries" "ploughmanByPlot" "[I") (List.mem_of_getElem? (i := 9) rfl)
  have lk_8 := hts (.fieldLink RX1 27 "PloughingMatch$Entries" "size" "I") (List.mem_of_getElem? (i := 10) rfl)
  have lk_9 := hts (.fieldLink RX1 31 "PloughingMatch$Entries" "drawn" "Z") (List.mem_of_getElem? (i := 11) rfl)
  refine lv_aload_n hx hb dX1_init_0 rfl (lv_at hl 0 rfl) ?_
  refine W.objInit hx hb hown lk_0 lk_1 (hts _ (List.mem_of_getElem? (i := 3) rfl)) rfl (by rw [hml]; exact hl.1) rfl dX1_init_1 (Nat.le_of_ble_eq_true rfl) (Nat.le_of_ble_eq_true rfl) ?_
  refine W.eq (g2 := F0 m 4 ls []) rfl ?_
  refine lv_aload_n hx hb dX1_init_4 rfl (lv_at hl 0 rfl) ?_
  refine lv_bipush (v := nI 24) hx hb dX1_init_5 (by decide) ?_
  refine va_newa hx hb (atype := .int) lk_2 rfl hc.1 hw.1 hw.2.1 hw.2.2 hc.2.1 (a0 := (24, .inl (fun _ => 0))) (fun cA => rfl) (by decide) (nI_clamp (by decide)) (by decide) (by decide) (by decide) dX1_init_7 (fun a1 cA_1 H hK9 hP hD hS => ?_)
  have cA_1e : cA_1 = cI := Option.some.inj ((hK9.2 4 _ rfl).2.symm.trans (hc.1.2 0 _ rfl).2)
  rw [cA_1e] at hP hD
  have hw : Wd D A s H _ [(a0, .inr (1, [.null, .null, .null, .null, .null, .int (nI 0), .int (nI 0)])), (a1, .inl (cI, 24, .inl (fun _ => 0)))] := ⟨hP, hD, hS⟩
  refine W.widen (k := 1) (n := 24) (by decide) (by decide) ?_
  refine w_putF (C := RX1) (T := TX1) (N := 7) (ci := 1) (v := .ref a1) (ws1 := [(a0, .inr (1, [.ref a1, .null, .null, .null, .null, .int (nI 0), .int (nI 0)])), (a1, .inl (cI, 24, .inl (fun _ => 0)))]) hx hb hts in_1 tyX1 tyX1_ok nmX1 hown hc hw 0 0 rfl rfl (by decide) lk_3 rfl hnm rfl rfl rfl (Nat.le_of_ble_eq_true rfl) rfl dX1_init_9 (fun H locs hw => ?_)
  refine lv_aload_n hx hb dX1_init_12 rfl (lv_at hl 0 rfl) ?_
  refine lv_bipush (v := nI 24) hx hb dX1_init_13 (by decide) ?_
  refine va_newa hx hb (atype := .int) lk_2 rfl hc.1 hw.1 hw.2.1 hw.2.2 hc.2.1 (a0 := (24, .inl (fun _ => 0))) (fun cA => rfl) (by decide) (nI_clamp (by decide)) (by decide) (by decide) (by decide) dX1_init_15 (fun a2 cA_2 H hK9 hP hD hS => ?_)
  have cA_2e : cA_2 = cI := Option.some.inj ((hK9.2 4 _ rfl).2.symm.trans (hc.1.2 0 _ rfl).2)
  rw [cA_2e] at hP hD
  have hw : Wd D A s H _ [(a0, .inr (1, [.ref a1, .null, .null, .null, .null, .int (nI 0), .int (nI 0)])), (a1, .inl (cI, 24, .inl (fun _ => 0))), (a2, .inl (cI, 24, .inl (fun _ => 0)))] := ⟨hP, hD, hS⟩
  refine W.widen (k := 2) (n := 48) (by decide) (by decide) ?_
  refine w_putF (C := RX1) (T := TX1) (N := 7) (ci := 1) (v := .ref a2) (ws1 := [(a0, .inr (1, [.ref a1, .ref a2, .null, .null, .null, .int (nI 0), .int (nI 0)])), (a1, .inl (cI, 24, .inl (fun _ => 0))), (a2, .inl (cI, 24, .inl (fun _ => 0)))]) hx hb hts in_1 tyX1 tyX1_ok nmX1 hown hc hw 0 1 rfl rfl (by decide) lk_4 rfl hnm rfl rfl rfl (Nat.le_of_ble_eq_true rfl) rfl dX1_init_17 (fun H locs hw => ?_)
  refine lv_aload_n hx hb dX1_init_20 rfl (lv_at hl 0 rfl) ?_
  refine lv_bipush (v := nI 24) hx hb dX1_init_21 (by decide) ?_
  refine va_newa hx hb (atype := .int) lk_2 rfl hc.1 hw.1 hw.2.1 hw.2.2 hc.2.1 (a0 := (24, .inl (fun _ => 0))) (fun cA => rfl) (by decide) (nI_clamp (by decide)) (by decide) (by decide) (by decide) dX1_init_23 (fun a3 cA_3 H hK9 hP hD hS => ?_)
  have cA_3e : cA_3 = cI := Option.some.inj ((hK9.2 4 _ rfl).2.symm.trans (hc.1.2 0 _ rfl).2)
  rw [cA_3e] at hP hD
  have hw : Wd D A s H _ [(a0, .inr (1, [.ref a1, .ref a2, .null, .null, .null, .int (nI 0), .int (nI 0)])), (a1, .inl (cI, 24, .inl (fun _ => 0))), (a2, .inl (cI, 24, .inl (fun _ => 0))), (a3, .inl (cI, 24, .inl (fun _ => 0)))] := ⟨hP, hD, hS⟩
  refine W.widen (k := 3) (n := 72) (by decide) (by decide) ?_
  refine w_putF (C := RX1) (T := TX1) (N := 7) (ci := 1) (v := .ref a3) (ws1 := [(a0, .inr (1, [.ref a1, .ref a2, .ref a3, .null, .null, .int (nI 0), .int (nI 0)])), (a1, .inl (cI, 24, .inl (fun _ => 0))), (a2, .inl (cI, 24, .inl (fun _ => 0))), (a3, .inl (cI, 24, .inl (fun _ => 0)))]) hx hb hts in_1 tyX1 tyX1_ok nmX1 hown hc hw 0 2 rfl rfl (by decide) lk_5 rfl hnm rfl rfl rfl (Nat.le_of_ble_eq_true rfl) rfl dX1_init_25 (fun H locs hw => ?_)
  refine lv_aload_n hx hb dX1_init_28 rfl (lv_at hl 0 rfl) ?_
  refine lv_bipush (v := nI 24) hx hb dX1_init_29 (by decide) ?_
  refine va_newa hx hb (atype := .int) lk_2 rfl hc.1 hw.1 hw.2.1 hw.2.2 hc.2.1 (a0 := (24, .inl (fun _ => 0))) (fun cA => rfl) (by decide) (nI_clamp (by decide)) (by decide) (by decide) (by decide) dX1_init_31 (fun a4 cA_4 H hK9 hP hD hS => ?_)
  have cA_4e : cA_4 = cI := Option.some.inj ((hK9.2 4 _ rfl).2.symm.trans (hc.1.2 0 _ rfl).2)
  rw [cA_4e] at hP hD
  have hw : Wd D A s H _ [(a0, .inr (1, [.ref a1, .ref a2, .ref a3, .null, .null, .int (nI 0), .int (nI 0)])), (a1, .inl (cI, 24, .inl (fun _ => 0))), (a2, .inl (cI, 24, .inl (fun _ => 0))), (a3, .inl (cI, 24, .inl (fun _ => 0))), (a4, .inl (cI, 24, .inl (fun _ => 0)))] := ⟨hP, hD, hS⟩
  refine W.widen (k := 4) (n := 96) (by decide) (by decide) ?_
  refine w_putF (C := RX1) (T := TX1) (N := 7) (ci := 1) (v := .ref a4) (ws1 := [(a0, .inr (1, [.ref a1, .ref a2, .ref a3, .ref a4, .null, .int (nI 0), .int (nI 0)])), (a1, .inl (cI, 24, .inl (fun _ => 0))), (a2, .inl (cI, 24, .inl (fun _ => 0))), (a3, .inl (cI, 24, .inl (fun _ => 0))), (a4, .inl (cI, 24, .inl (fun _ => 0)))]) hx hb hts in_1 tyX1 tyX1_ok nmX1 hown hc hw 0 3 rfl rfl (by decide) lk_6 rfl hnm rfl rfl rfl (Nat.le_of_ble_eq_true rfl) rfl dX1_init_33 (fun H locs hw => ?_)
  refine lv_aload_n hx hb dX1_init_36 rfl (lv_at hl 0 rfl) ?_
  refine lv_bipush (v := nI 24) hx hb dX1_init_37 (by decide) ?_
  refine va_newa hx hb (atype := .int) lk_2 rfl hc.1 hw.1 hw.2.1 hw.2.2 hc.2.1 (a0 := (24, .inl (fun _ => 0))) (fun cA => rfl) (by decide) (nI_clamp (by decide)) (by decide) (by decide) (by decide) dX1_init_39 (fun a5 cA_5 H hK9 hP hD hS => ?_)
  have cA_5e : cA_5 = cI := Option.some.inj ((hK9.2 4 _ rfl).2.symm.trans (hc.1.2 0 _ rfl).2)
  rw [cA_5e] at hP hD
  have hw : Wd D A s H _ [(a0, .inr (1, [.ref a1, .ref a2, .ref a3, .ref a4, .null, .int (nI 0), .int (nI 0)])), (a1, .inl (cI, 24, .inl (fun _ => 0))), (a2, .inl (cI, 24, .inl (fun _ => 0))), (a3, .inl (cI, 24, .inl (fun _ => 0))), (a4, .inl (cI, 24, .inl (fun _ => 0))), (a5, .inl (cI, 24, .inl (fun _ => 0)))] := ⟨hP, hD, hS⟩
  refine W.widen (k := 5) (n := 120) (by decide) (by decide) ?_
  refine w_putF (C := RX1) (T := TX1) (N := 7) (ci := 1) (v := .ref a5) (ws1 := [(a0, .inr (1, [.ref a1, .ref a2, .ref a3, .ref a4, .ref a5, .int (nI 0), .int (nI 0)])), (a1, .inl (cI, 24, .inl (fun _ => 0))), (a2, .inl (cI, 24, .inl (fun _ => 0))), (a3, .inl (cI, 24, .inl (fun _ => 0))), (a4, .inl (cI, 24, .inl (fun _ => 0))), (a5, .inl (cI, 24, .inl (fun _ => 0)))]) hx hb hts in_1 tyX1 tyX1_ok nmX1 hown hc hw 0 4 rfl rfl (by decide) lk_7 rfl hnm rfl rfl rfl (Nat.le_of_ble_eq_true rfl) rfl dX1_init_41 (fun H locs hw => ?_)
  refine lv_aload_n hx hb dX1_init_44 rfl (lv_at hl 0 rfl) ?_
  refine lv_iconst (v := nI 0) hx hb dX1_init_45 (by decide) ?_
  refine w_put (C := RX1) (T := TX1) (N := 7) (ci := 1) (v := .int (nI 0)) (ws1 := [(a0, .inr (1, [.ref a1, .ref a2, .ref a3, .ref a4, .ref a5, .int (nI 0), .int (nI 0)])), (a1, .inl (cI, 24, .inl (fun _ => 0))), (a2, .inl (cI, 24, .inl (fun _ => 0))), (a3, .inl (cI, 24, .inl (fun _ => 0))), (a4, .inl (cI, 24, .inl (fun _ => 0))), (a5, .inl (cI, 24, .inl (fun _ => 0)))]) hx hb hts in_1 tyX1 tyX1_ok nmX1 hown hc hw 0 5 rfl rfl (by decide) lk_8 rfl rfl rfl (Nat.le_of_ble_eq_true rfl) rfl dX1_init_46 (fun H locs hw => ?_)
  refine lv_aload_n hx hb dX1_init_49 rfl (lv_at hl 0 rfl) ?_
  refine lv_iconst (v := nI 0) hx hb dX1_init_50 (by decide) ?_
  refine wn_top (y := zI false) rfl ?_
  refine w_put (C := RX1) (T := TX1) (N := 7) (ci := 1) (v := .int (zI false)) (ws1 := [(a0, .inr (1, [.ref a1, .ref a2, .ref a3, .ref a4, .ref a5, .int (nI 0), .int (zI false)])), (a1, .inl (cI, 24, .inl (fun _ => 0))), (a2, .inl (cI, 24, .inl (fun _ => 0))), (a3, .inl (cI, 24, .inl (fun _ => 0))), (a4, .inl (cI, 24, .inl (fun _ => 0))), (a5, .inl (cI, 24, .inl (fun _ => 0)))]) hx hb hts in_1 tyX1 tyX1_ok nmX1 hown hc hw 0 6 rfl rfl (by decide) lk_9 rfl (zI_nar _) (zI_fit _) (Nat.le_of_ble_eq_true rfl) rfl dX1_init_51 (fun H locs hw => ?_)
  subst hQ
  exact r_v hx hb hr hlk hw ⟨a1, a2, a3, a4, a5, rfl⟩ dX1_init_54
def rm_c_X1_enter : Room := { frames := 0, cells := 0, slots := 0, locals := 0 }
set_option maxHeartbeats 4000000 in
set_option maxRecDepth 100000 in
theorem c_X1_enter (l : Launch) (D : va_G) (cI cZ cB cJ : ClassId) (b0 : Nat) (adK adV : Nat → Nat) (a0 a1 a2 a3 a4 a5 : Nat) (kd : Nat → Int32) (ag : Nat → Int32) (cb : Nat → Nat) (pb : Nat → Nat) (pp : Nat → Nat) (n : Nat) (kind : Int32) (age : Int32) (cu : Nat) (dr : Bool) (hn : n < 24) : Mi l yX1_enter wsX1_enter rm_c_X1_enter D (TYs cI cZ cB cJ) b0 adK adV [.ref a0, .int kind, .int age, .int (nI cu)] [(a0, .inr (1, [.ref a1, .ref a2, .ref a3, .ref a4, .ref a5, .int (nI n), .int (zI dr)])), (a1, .inl (cI, 24, .inl kd)), (a2, .inl (cI, 24, .inl ag)), (a3, .inl (cI, 24, .inl (nF cb))), (a4, .inl (cI, 24, .inl (nF pb))), (a5, .inl (cI, 24, .inl (nF pp)))] (fun (r : Int32) (w : va_W) => r = nI n ∧ w = [(a0, .inr (1, [.ref a1, .ref a2, .ref a3, .ref a4, .ref a5, .int (nI (n + 1)), .int (zI dr)])), (a1, .inl (cI, 24, .inl (upd kd n kind))), (a2, .inl (cI, 24, .inl (upd ag n age))), (a3, .inl (cI, 24, .inl (nF (va_up cb n cu)))), (a4, .inl (cI, 24, .inl (nF pb))), (a5, .inl (cI, 24, .inl (nF pp)))]) 0 0 := by
  refine e_M (Qf := fun A => va_Qi (fun (r : Int32) (w : va_W) => r = nI n ∧ w = [(a0, .inr (1, [.ref a1, .ref a2, .ref a3, .ref a4, .ref a5, .int (nI (n + 1)), .int (zI dr)])), (a1, .inl (cI, 24, .inl (upd kd n kind))), (a2, .inl (cI, 24, .inl (upd ag n age))), (a3, .inl (cI, 24, .inl (nF (va_up cb n cu)))), (a4, .inl (cI, 24, .inl (nF pb))), (a5, .inl (cI, 24, .inl (nF pp)))]) (Bw D A) A) (cc := cX1_enter) (maxL := 5) (ret := (some .int)) (by decide) rfl (Nat.le_of_ble_eq_true rfl) ?_
  intro p e s m args below meth c ls A Q H locs hx hb hr hml hts hown hlk hnm hc hw hl hQ
  have hl : lv_has ls 5 [(0, .ref a0), (1, .int kind), (2, .int age), (3, .int (nI cu))] := hl
  have in_1 : ∀ w ∈ u_ws RX1 TX1 7, w ∈ wsX1_enter := fun _ h => List.mem_cons_of_mem _ (List.mem_append_right _ h)
  have lk_0 := hts (.fieldLink RX1 27 "PloughingMatch$Entries" "size" "I") (List.mem_of_getElem? (i := 1) rfl)
  have lk_1 := hts (.fieldLink RX1 9 "PloughingMatch$Entries" "kinds" "[I") (List.mem_of_getElem? (i := 2) rfl)
  have lk_2 := hts (.fieldLink RX1 15 "PloughingMatch$Entries" "ages" "[I") (List.mem_of_getElem? (i := 3) rfl)
  have lk_3 := hts (.fieldLink RX1 18 "PloughingMatch$Entries" "clubs" "[I") (List.mem_of_getElem? (i := 4) rfl)
  refine lv_aload_n hx hb dX1_enter_0 rfl (lv_at hl 0 rfl) ?_
  refine w_get (C := RX1) (T := TX1) (N := 7) (ci := 1) hx hb hts in_1 hown hc hw 0 5 rfl rfl (by decide) lk_0 rfl dX1_enter_1 ?_
  refine lv_istore (lv' := [(4, .int (nI n)), (0, .ref a0), (1, .int kind), (2, .int age), (3, .int (nI cu))]) hx hb dX1_enter_4 hl (by decide) rfl (fun ls hl => ?_)
  refine lv_aload_n hx hb dX1_enter_6 rfl (lv_at hl 1 rfl) ?_
  refine w_get (C := RX1) (T := TX1) (N := 7) (ci := 1) hx hb hts in_1 hown hc hw 0 0 rfl rfl (by decide) lk_1 rfl dX1_enter_7 ?_
  refine lv_iload hx hb dX1_enter_10 (lv_at hl 0 rfl) ?_
  refine lv_iload_n hx hb dX1_enter_12 rfl (lv_at hl 2 rfl) ?_
  refine w_iast (ws1 := [(a0, .inr (1, [.ref a1, .ref a2, .ref a3, .ref a4, .ref a5, .int (nI n), .int (zI dr)])), (a1, .inl (cI, 24, .inl (upd kd n kind))), (a2, .inl (cI, 24, .inl ag)), (a3, .inl (cI, 24, .inl (nF cb))), (a4, .inl (cI, 24, .inl (nF pb))), (a5, .inl (cI, 24, .inl (nF pp)))]) hx hb hc hw 1 rfl rfl (i := n) (by omega) (by decide) rfl dX1_enter_13 (fun H locs hw => ?_)
  refine lv_aload_n hx hb dX1_enter_14 rfl (lv_at hl 1 rfl) ?_
  refine w_get (C := RX1) (T := TX1) (N := 7) (ci := 1) hx hb hts in_1 hown hc hw 0 1 rfl rfl (by decide) lk_2 rfl dX1_enter_15 ?_
  refine lv_iload hx hb dX1_enter_18 (lv_at hl 0 rfl) ?_
  refine lv_iload_n hx hb dX1_enter_20 rfl (lv_at hl 3 rfl) ?_
  refine w_iast (ws1 := [(a0, .inr (1, [.ref a1, .ref a2, .ref a3, .ref a4, .ref a5, .int (nI n), .int (zI dr)])), (a1, .inl (cI, 24, .inl (upd kd n kind))), (a2, .inl (cI, 24, .inl (upd ag n age))), (a3, .inl (cI, 24, .inl (nF cb))), (a4, .inl (cI, 24, .inl (nF pb))), (a5, .inl (cI, 24, .inl (nF pp)))]) hx hb hc hw 2 rfl rfl (i := n) (by omega) (by decide) rfl dX1_enter_21 (fun H locs hw => ?_)
  refine lv_aload_n hx hb dX1_enter_22 rfl (lv_at hl 1 rfl) ?_
  refine w_get (C := RX1) (T := TX1) (N := 7) (ci := 1) hx hb hts in_1 hown hc hw 0 2 rfl rfl (by decide) lk_3 rfl dX1_enter_23 ?_
  refine lv_iload hx hb dX1_enter_26 (lv_at hl 0 rfl) ?_
  refine lv_iload_n hx hb dX1_enter_28 rfl (lv_at hl 4 rfl) ?_
  refine w_iast (ws1 := [(a0, .inr (1, [.ref a1, .ref a2, .ref a3, .ref a4, .ref a5, .int (nI n), .int (zI dr)])), (a1, .inl (cI, 24, .inl (upd kd n kind))), (a2, .inl (cI, 24, .inl (upd ag n age))), (a3, .inl (cI, 24, .inl (nF (va_up cb n cu)))), (a4, .inl (cI, 24, .inl (nF pb))), (a5, .inl (cI, 24, .inl (nF pp)))]) hx hb hc hw 3 rfl rfl (i := n) (by omega) (by decide) (by rw [nF_upd]; rfl) dX1_enter_29 (fun H locs hw => ?_)
  refine lv_aload_n hx hb dX1_enter_30 rfl (lv_at hl 1 rfl) ?_
  refine lv_dup hx hb dX1_enter_31 rfl ?_
  refine w_get (C := RX1) (T := TX1) (N := 7) (ci := 1) hx hb hts in_1 hown hc hw 0 5 rfl rfl (by decide) lk_0 rfl dX1_enter_32 ?_
  refine lv_iconst (v := nI 1) hx hb dX1_enter_35 (by decide) ?_
  refine wn_iadd hx hb dX1_enter_36 ?_
  refine w_put (C := RX1) (T := TX1) (N := 7) (ci := 1) (v := .int (nI (n + 1))) (ws1 := [(a0, .inr (1, [.ref a1, .ref a2, .ref a3, .ref a4, .ref a5, .int (nI (n + 1)), .int (zI dr)])), (a1, .inl (cI, 24, .inl (upd kd n kind))), (a2, .inl (cI, 24, .inl (upd ag n age))), (a3, .inl (cI, 24, .inl (nF (va_up cb n cu)))), (a4, .inl (cI, 24, .inl (nF pb))), (a5, .inl (cI, 24, .inl (nF pp)))]) hx hb hts in_1 tyX1 tyX1_ok nmX1 hown hc hw 0 5 rfl rfl (by decide) lk_0 rfl rfl rfl (Nat.le_of_ble_eq_true rfl) rfl dX1_enter_37 (fun H locs hw => ?_)
  refine lv_iload hx hb dX1_enter_40 (lv_at hl 0 rfl) ?_
  subst hQ
  exact r_i hx hb hr rfl hlk hw ⟨rfl, rfl⟩ dX1_enter_42
def rm_c_X1_isFull : Room := { frames := 0, cells := 0, slots := 0, locals := 0 }
set_option maxHeartbeats 4000000 in
set_option maxRecDepth 100000 in
theorem c_X1_isFull (l : Launch) (D : va_G) (cI cZ cB cJ : ClassId) (b0 : Nat) (adK adV : Nat → Nat) (a0 a1 a2 a3 a4 a5 : Nat) (kd : Nat → Int32) (ag : Nat → Int32) (cb : Nat → Nat) (pb : Nat → Nat) (pp : Nat → Nat) (n : Nat) (dr : Bool) (hn : n ≤ 24) : Mi l yX1_isFull wsX1_isFull rm_c_X1_isFull D (TYs cI cZ cB cJ) b0 adK adV [.ref a0] [(a0, .inr (1, [.ref a1, .ref a2, .ref a3, .ref a4, .ref a5, .int (nI n), .int (zI dr)])), (a1, .inl (cI, 24, .inl kd)), (a2, .inl (cI, 24, .inl ag)), (a3, .inl (cI, 24, .inl (nF cb))), (a4, .inl (cI, 24, .inl (nF pb))), (a5, .inl (cI, 24, .inl (nF pp)))] (fun (r : Int32) (w : va_W) => r = zI (decide (24 ≤ n)) ∧ w = [(a0, .inr (1, [.ref a1, .ref a2, .ref a3, .ref a4, .ref a5, .int (nI n), .int (zI dr)])), (a1, .inl (cI, 24, .inl kd)), (a2, .inl (cI, 24, .inl ag)), (a3, .inl (cI, 24, .inl (nF cb))), (a4, .inl (cI, 24, .inl (nF pb))), (a5, .inl (cI, 24, .inl (nF pp)))]) 0 0 := by
  refine e_M (Qf := fun A => va_Qi (fun (r : Int32) (w : va_W) => r = zI (decide (24 ≤ n)) ∧ w = [(a0, .inr (1, [.ref a1, .ref a2, .ref a3, .ref a4, .ref a5, .int (nI n), .int (zI dr)])), (a1, .inl (cI, 24, .inl kd)), (a2, .inl (cI, 24, .inl ag)), (a3, .inl (cI, 24, .inl (nF cb))), (a4, .inl (cI, 24, .inl (nF pb))), (a5, .inl (cI, 24, .inl (nF pp)))]) (Bw D A) A) (cc := cX1_isFull) (maxL := 1) (ret := (some .boolean)) (by decide) rfl (Nat.le_of_ble_eq_true rfl) ?_
  intro p e s m args below meth c ls A Q H locs hx hb hr hml hts hown hlk hnm hc hw hl hQ
  have hl : lv_has ls 1 [(0, .ref a0)] := hl
  have in_1 : ∀ w ∈ u_ws RX1 TX1 7, w ∈ wsX1_isFull := fun _ h => List.mem_cons_of_mem _ (List.mem_append_right _ h)
  have lk_0 := hts (.fieldLink RX1 27 "PloughingMatch$Entries" "size" "I") (List.mem_of_getElem? (i := 1) rfl)
  refine lv_aload_n hx hb dX1_isFull_0 rfl (lv_at hl 0 rfl) ?_
  refine w_get (C := RX1) (T := TX1) (N := 7) (ci := 1) hx hb hts in_1 hown hc hw 0 5 rfl rfl (by decide) lk_0 rfl dX1_isFull_1 ?_
  refine lv_bipush (v := nI 24) hx hb dX1_isFull_4 (by decide) ?_
  refine wb_icmp_lt (tgt := 13) hx hb (by omega) (by omega) dX1_isFull_6 (by decide) (fun c_1 => ?_) (fun c_1 => ?_)
  · skip
    refine lv_iconst (v := nI 0) hx hb dX1_isFull_13 (by decide) ?_
    subst hQ
    exact r_i hx hb hr rfl hlk hw ⟨(zI_f (decide_eq_false (by omega))), rfl⟩ dX1_isFull_14
  · skip
    refine lv_iconst (v := nI 1) hx hb dX1_isFull_9 (by decide) ?_
    refine lv_goto (tgt := 14) hx hb dX1_isFull_10 (by decide) ?_
    subst hQ
    exact r_i hx hb hr rfl hlk hw ⟨(zI_t (decide_eq_true (by omega))), rfl⟩ dX1_isFull_14
def rm_c_X1_isDrawn : Room := { frames := 0, cells := 0, slots := 0, locals := 0 }
set_option maxHeartbeats 4000000 in
set_option maxRecDepth 100000 in
theorem c_X1_isDrawn (l : Launch) (D : va_G) (cI cZ cB cJ : ClassId) (b0 : Nat) (adK adV : Nat → Nat) (a0 a1 a2 a3 a4 a5 : Nat) (kd : Nat → Int32) (ag : Nat → Int32) (cb : Nat → Nat) (pb : Nat → Nat) (pp : Nat → Nat) (n : Nat) (dr : Bool) : Mi l yX1_isDrawn wsX1_isDrawn rm_c_X1_isDrawn D (TYs cI cZ cB cJ) b0 adK adV [.ref a0] [(a0, .inr (1, [.ref a1, .ref a2, .ref a3, .ref a4, .ref a5, .int (nI n), .int (zI dr)])), (a1, .inl (cI, 24, .inl kd)), (a2, .inl (cI, 24, .inl ag)), (a3, .inl (cI, 24, .inl (nF cb))), (a4, .inl (cI, 24, .inl (nF pb))), (a5, .inl (cI, 24, .inl (nF pp)))] (fun (r : Int32) (w : va_W) => r = zI dr ∧ w = [(a0, .inr (1, [.ref a1, .ref a2, .ref a3, .ref a4, .ref a5, .int (nI n), .int (zI dr)])), (a1, .inl (cI, 24, .inl kd)), (a2, .inl (cI, 24, .inl ag)), (a3, .inl (cI, 24, .inl (nF cb))), (a4, .inl (cI, 24, .inl (nF pb))), (a5, .inl (cI, 24, .inl (nF pp)))]) 0 0 := by
  refine e_M (Qf := fun A => va_Qi (fun (r : Int32) (w : va_W) => r = zI dr ∧ w = [(a0, .inr (1, [.ref a1, .ref a2, .ref a3, .ref a4, .ref a5, .int (nI n), .int (zI dr)])), (a1, .inl (cI, 24, .inl kd)), (a2, .inl (cI, 24, .inl ag)), (a3, .inl (cI, 24, .inl (nF cb))), (a4, .inl (cI, 24, .inl (nF pb))), (a5, .inl (cI, 24, .inl (nF pp)))]) (Bw D A) A) (cc := cX1_isDrawn) (maxL := 1) (ret := (some .boolean)) (by decide) rfl (Nat.le_of_ble_eq_true rfl) ?_
  intro p e s m args below meth c ls A Q H locs hx hb hr hml hts hown hlk hnm hc hw hl hQ
  have hl : lv_has ls 1 [(0, .ref a0)] := hl
  have in_1 : ∀ w ∈ u_ws RX1 TX1 7, w ∈ wsX1_isDrawn := fun _ h => List.mem_cons_of_mem _ (List.mem_append_right _ h)
  have lk_0 := hts (.fieldLink RX1 31 "PloughingMatch$Entries" "drawn" "Z") (List.mem_of_getElem? (i := 1) rfl)
  refine lv_aload_n hx hb dX1_isDrawn_0 rfl (lv_at hl 0 rfl) ?_
  refine w_get (C := RX1) (T := TX1) (N := 7) (ci := 1) hx hb hts in_1 hown hc hw 0 6 rfl rfl (by decide) lk_0 rfl dX1_isDrawn_1 ?_
  subst hQ
  exact r_i hx hb hr (zI_nar _) hlk hw ⟨rfl, rfl⟩ dX1_isDrawn_4
def rm_c_X1_size : Room := { frames := 0, cells := 0, slots := 0, locals := 0 }
set_option maxHeartbeats 4000000 in
set_option maxRecDepth 100000 in
theorem c_X1_size (l : Launch) (D : va_G) (cI cZ cB cJ : ClassId) (b0 : Nat) (adK adV : Nat → Nat) (a0 a1 a2 a3 a4 a5 : Nat) (kd : Nat → Int32) (ag : Nat → Int32) (cb : Nat → Nat) (pb : Nat → Nat) (pp : Nat → Nat) (n : Nat) (dr : Bool) : Mi l yX1_size wsX1_size rm_c_X1_size D (TYs cI cZ cB cJ) b0 adK adV [.ref a0] [(a0, .inr (1, [.ref a1, .ref a2, .ref a3, .ref a4, .ref a5, .int (nI n), .int (zI dr)])), (a1, .inl (cI, 24, .inl kd)), (a2, .inl (cI, 24, .inl ag)), (a3, .inl (cI, 24, .inl (nF cb))), (a4, .inl (cI, 24, .inl (nF pb))), (a5, .inl (cI, 24, .inl (nF pp)))] (fun (r : Int32) (w : va_W) => r = nI n ∧ w = [(a0, .inr (1, [.ref a1, .ref a2, .ref a3, .ref a4, .ref a5, .int (nI n), .int (zI dr)])), (a1, .inl (cI, 24, .inl kd)), (a2, .inl (cI, 24, .inl ag)), (a3, .inl (cI, 24, .inl (nF cb))), (a4, .inl (cI, 24, .inl (nF pb))), (a5, .inl (cI, 24, .inl (nF pp)))]) 0 0 := by
  refine e_M (Qf := fun A => va_Qi (fun (r : Int32) (w : va_W) => r = nI n ∧ w = [(a0, .inr (1, [.ref a1, .ref a2, .ref a3, .ref a4, .ref a5, .int (nI n), .int (zI dr)])), (a1, .inl (cI, 24, .inl kd)), (a2, .inl (cI, 24, .inl ag)), (a3, .inl (cI, 24, .inl (nF cb))), (a4, .inl (cI, 24, .inl (nF pb))), (a5, .inl (cI, 24, .inl (nF pp)))]) (Bw D A) A) (cc := cX1_size) (maxL := 1) (ret := (some .int)) (by decide) rfl (Nat.le_of_ble_eq_true rfl) ?_
  intro p e s m args below meth c ls A Q H locs hx hb hr hml hts hown hlk hnm hc hw hl hQ
  have hl : lv_has ls 1 [(0, .ref a0)] := hl
  have in_1 : ∀ w ∈ u_ws RX1 TX1 7, w ∈ wsX1_size := fun _ h => List.mem_cons_of_mem _ (List.mem_append_right _ h)
  have lk_0 := hts (.fieldLink RX1 27 "PloughingMatch$Entries" "size" "I") (List.mem_of_getElem? (i := 1) rfl)
  refine lv_aload_n hx hb dX1_size_0 rfl (lv_at hl 0 rfl) ?_
  refine w_get (C := RX1) (T := TX1) (N := 7) (ci := 1) hx hb hts in_1 hown hc hw 0 5 rfl rfl (by decide) lk_0 rfl dX1_size_1 ?_
  subst hQ
  exact r_i hx hb hr rfl hlk hw ⟨rfl, rfl⟩ dX1_size_4
def rm_c_X1_plots : Room := { frames := 0, cells := 0, slots := 0, locals := 0 }
set_option maxHeartbeats 4000000 in
set_option maxRecDepth 100000 in
theorem c_X1_plots (l : Launch) (D : va_G) (cI cZ cB cJ : ClassId) (b0 : Nat) (adK adV : Nat → Nat) (a0 a1 a2 a3 a4 a5 : Nat) (kd : Nat → Int32) (ag : Nat → Int32) (cb : Nat → Nat) (pb : Nat → Nat) (pp : Nat → Nat) (n : Nat) : Mi l yX1_plots wsX1_plots rm_c_X1_plots D (TYs cI cZ cB cJ) b0 adK adV [.ref a0] [(a0, .inr (1, [.ref a1, .ref a2, .ref a3, .ref a4, .ref a5, .int (nI n), .int (zI true)])), (a1, .inl (cI, 24, .inl kd)), (a2, .inl (cI, 24, .inl ag)), (a3, .inl (cI, 24, .inl (nF cb))), (a4, .inl (cI, 24, .inl (nF pb))), (a5, .inl (cI, 24, .inl (nF pp)))] (fun (r : Int32) (w : va_W) => r = nI n ∧ w = [(a0, .inr (1, [.ref a1, .ref a2, .ref a3, .ref a4, .ref a5, .int (nI n), .int (zI true)])), (a1, .inl (cI, 24, .inl kd)), (a2, .inl (cI, 24, .inl ag)), (a3, .inl (cI, 24, .inl (nF cb))), (a4, .inl (cI, 24, .inl (nF pb))), (a5, .inl (cI, 24, .inl (nF pp)))]) 0 0 := by
  refine e_M (Qf := fun A => va_Qi (fun (r : Int32) (w : va_W) => r = nI n ∧ w = [(a0, .inr (1, [.ref a1, .ref a2, .ref a3, .ref a4, .ref a5, .int (nI n), .int (zI true)])), (a1, .inl (cI, 24, .inl kd)), (a2, .inl (cI, 24, .inl ag)), (a3, .inl (cI, 24, .inl (nF cb))), (a4, .inl (cI, 24, .inl (nF pb))), (a5, .inl (cI, 24, .inl (nF pp)))]) (Bw D A) A) (cc := cX1_plots) (maxL := 1) (ret := (some .int)) (by decide) rfl (Nat.le_of_ble_eq_true rfl) ?_
  intro p e s m args below meth c ls A Q H locs hx hb hr hml hts hown hlk hnm hc hw hl hQ
  have hl : lv_has ls 1 [(0, .ref a0)] := hl
  have in_1 : ∀ w ∈ u_ws RX1 TX1 7, w ∈ wsX1_plots := fun _ h => List.mem_cons_of_mem _ (List.mem_append_right _ h)
  have lk_0 := hts (.fieldLink RX1 31 "PloughingMatch$Entries" "drawn" "Z") (List.mem_of_getElem? (i := 1) rfl)
  have lk_1 := hts (.fieldLink RX1 27 "PloughingMatch$Entries" "size" "I") (List.mem_of_getElem? (i := 2) rfl)
  refine lv_aload_n hx hb dX1_plots_0 rfl (lv_at hl 0 rfl) ?_
  refine w_get (C := RX1) (T := TX1) (N := 7) (ci := 1) hx hb hts in_1 hown hc hw 0 6 rfl rfl (by decide) lk_0 rfl dX1_plots_1 ?_
  refine wz_if_eq (tgt := 14) hx hb dX1_plots_4 (by decide) (fun c => absurd c (by decide)) (fun _ => ?_)
  refine lv_aload_n hx hb dX1_plots_7 rfl (lv_at hl 0 rfl) ?_
  refine w_get (C := RX1) (T := TX1) (N := 7) (ci := 1) hx hb hts in_1 hown hc hw 0 5 rfl rfl (by decide) lk_1 rfl dX1_plots_8 ?_
  refine lv_goto (tgt := 15) hx hb dX1_plots_11 (by decide) ?_
  subst hQ
  exact r_i hx hb hr rfl hlk hw ⟨rfl, rfl⟩ dX1_plots_15
def rm_c_X1_plots_0 : Room := { frames := 0, cells := 0, slots := 0, locals := 0 }
set_option maxHeartbeats 4000000 in
set_option maxRecDepth 100000 in
theorem c_X1_plots_0 (l : Launch) (D : va_G) (cI cZ cB cJ : ClassId) (b0 : Nat) (adK adV : Nat → Nat) (a0 a1 a2 a3 a4 a5 : Nat) (kd : Nat → Int32) (ag : Nat → Int32) (cb : Nat → Nat) (pb : Nat → Nat) (pp : Nat → Nat) (n : Nat) : Mi l yX1_plots wsX1_plots rm_c_X1_plots_0 D (TYs cI cZ cB cJ) b0 adK adV [.ref a0] [(a0, .inr (1, [.ref a1, .ref a2, .ref a3, .ref a4, .ref a5, .int (nI n), .int (zI false)])), (a1, .inl (cI, 24, .inl kd)), (a2, .inl (cI, 24, .inl ag)), (a3, .inl (cI, 24, .inl (nF cb))), (a4, .inl (cI, 24, .inl (nF pb))), (a5, .inl (cI, 24, .inl (nF pp)))] (fun (r : Int32) (w : va_W) => r = nI 0 ∧ w = [(a0, .inr (1, [.ref a1, .ref a2, .ref a3, .ref a4, .ref a5, .int (nI n), .int (zI false)])), (a1, .inl (cI, 24, .inl kd)), (a2, .inl (cI, 24, .inl ag)), (a3, .inl (cI, 24, .inl (nF cb))), (a4, .inl (cI, 24, .inl (nF pb))), (a5, .inl (cI, 24, .inl (nF pp)))]) 0 0 := by
  refine e_M (Qf := fun A => va_Qi (fun (r : Int32) (w : va_W) => r = nI 0 ∧ w = [(a0, .inr (1, [.ref a1, .ref a2, .ref a3, .ref a4, .ref a5, .int (nI n), .int (zI false)])), (a1, .inl (cI, 24, .inl kd)), (a2, .inl (cI, 24, .inl ag)), (a3, .inl (cI, 24, .inl (nF cb))), (a4, .inl (cI, 24, .inl (nF pb))), (a5, .inl (cI, 24, .inl (nF pp)))]) (Bw D A) A) (cc := cX1_plots) (maxL := 1) (ret := (some .int)) (by decide) rfl (Nat.le_of_ble_eq_true rfl) ?_
  intro p e s m args below meth c ls A Q H locs hx hb hr hml hts hown hlk hnm hc hw hl hQ
  have hl : lv_has ls 1 [(0, .ref a0)] := hl
  have in_1 : ∀ w ∈ u_ws RX1 TX1 7, w ∈ wsX1_plots := fun _ h => List.mem_cons_of_mem _ (List.mem_append_right _ h)
  have lk_0 := hts (.fieldLink RX1 31 "PloughingMatch$Entries" "drawn" "Z") (List.mem_of_getElem? (i := 1) rfl)
  refine lv_aload_n hx hb dX1_plots_0 rfl (lv_at hl 0 rfl) ?_
  refine w_get (C := RX1) (T := TX1) (N := 7) (ci := 1) hx hb hts in_1 hown hc hw 0 6 rfl rfl (by decide) lk_0 rfl dX1_plots_1 ?_
  refine wz_if_eq (tgt := 14) hx hb dX1_plots_4 (by decide) (fun _ => ?_) (fun c => absurd c (by decide))
  refine lv_iconst (v := nI 0) hx hb dX1_plots_14 (by decide) ?_
  subst hQ
  exact r_i hx hb hr rfl hlk hw ⟨rfl, rfl⟩ dX1_plots_15
def rm_c_X1_kindOf : Room := { frames := 0, cells := 0, slots := 0, locals := 0 }
set_option maxHeartbeats 4000000 in
set_option maxRecDepth 100000 in
theorem c_X1_kindOf (l : Launch) (D : va_G) (cI cZ cB cJ : ClassId) (b0 : Nat) (adK adV : Nat → Nat) (a0 a1 a2 a3 a4 a5 : Nat) (kd : Nat → Int32) (ag : Nat → Int32) (cb : Nat → Nat) (pb : Nat → Nat) (pp : Nat → Nat) (n : Nat) (dr : Bool) (k : Nat) (hk : k < 24) : Mi l yX1_kindOf wsX1_kindOf rm_c_X1_kindOf D (TYs cI cZ cB cJ) b0 adK adV [.ref a0, .int (nI k)] [(a0, .inr (1, [.ref a1, .ref a2, .ref a3, .ref a4, .ref a5, .int (nI n), .int (zI dr)])), (a1, .inl (cI, 24, .inl kd)), (a2, .inl (cI, 24, .inl ag)), (a3, .inl (cI, 24, .inl (nF cb))), (a4, .inl (cI, 24, .inl (nF pb))), (a5, .inl (cI, 24, .inl (nF pp)))] (fun (r : Int32) (w : va_W) => r = kd k ∧ w = [(a0, .inr (1, [.ref a1, .ref a2, .ref a3, .ref a4, .ref a5, .int (nI n), .int (zI dr)])), (a1, .inl (cI, 24, .inl kd)), (a2, .inl (cI, 24, .inl ag)), (a3, .inl (cI, 24, .inl (nF cb))), (a4, .inl (cI, 24, .inl (nF pb))), (a5, .inl (cI, 24, .inl (nF pp)))]) 0 0 := by
  refine e_M (Qf := fun A => va_Qi (fun (r : Int32) (w : va_W) => r = kd k ∧ w = [(a0, .inr (1, [.ref a1, .ref a2, .ref a3, .ref a4, .ref a5, .int (nI n), .int (zI dr)])), (a1, .inl (cI, 24, .inl kd)), (a2, .inl (cI, 24, .inl ag)), (a3, .inl (cI, 24, .inl (nF cb))), (a4, .inl (cI, 24, .inl (nF pb))), (a5, .inl (cI, 24, .inl (nF pp)))]) (Bw D A) A) (cc := cX1_kindOf) (maxL := 2) (ret := (some .int)) (by decide) rfl (Nat.le_of_ble_eq_true rfl) ?_
  intro p e s m args below meth c ls A Q H locs hx hb hr hml hts hown hlk hnm hc hw hl hQ
  have hl : lv_has ls 2 [(0, .ref a0), (1, .int (nI k))] := hl
  have in_1 : ∀ w ∈ u_ws RX1 TX1 7, w ∈ wsX1_kindOf := fun _ h => List.mem_cons_of_mem _ (List.mem_append_right _ h)
  have lk_0 := hts (.fieldLink RX1 9 "PloughingMatch$Entries" "kinds" "[I") (List.mem_of_getElem? (i := 1) rfl)
  refine lv_aload_n hx hb dX1_kindOf_0 rfl (lv_at hl 0 rfl) ?_
  refine w_get (C := RX1) (T := TX1) (N := 7) (ci := 1) hx hb hts in_1 hown hc hw 0 0 rfl rfl (by decide) lk_0 rfl dX1_kindOf_1 ?_
  refine lv_iload_n hx hb dX1_kindOf_4 rfl (lv_at hl 1 rfl) ?_
  refine w_iald hx hb hc hw 1 rfl rfl (i := k) (by omega) (by decide) dX1_kindOf_5 ?_
  subst hQ
  exact r_i hx hb hr rfl hlk hw ⟨rfl, rfl⟩ dX1_kindOf_6
def rm_c_X1_ageOf : Room := { frames := 0, cells := 0, slots := 0, locals := 0 }
set_option maxHeartbeats 4000000 in
set_option maxRecDepth 100000 in
theorem c_X1_ageOf (l : Launch) (D : va_G) (cI cZ cB cJ : ClassId) (b0 : Nat) (adK adV : Nat → Nat) (a0 a1 a2 a3 a4 a5 : Nat) (kd : Nat → Int32) (ag : Nat → Int32) (cb : Nat → Nat) (pb : Nat → Nat) (pp : Nat → Nat) (n : Nat) (dr : Bool) (k : Nat) (hk : k < 24) : Mi l yX1_ageOf wsX1_ageOf rm_c_X1_ageOf D (TYs cI cZ cB cJ) b0 adK adV [.ref a0, .int (nI k)] [(a0, .inr (1, [.ref a1, .ref a2, .ref a3, .ref a4, .ref a5, .int (nI n), .int (zI dr)])), (a1, .inl (cI, 24, .inl kd)), (a2, .inl (cI, 24, .inl ag)), (a3, .inl (cI, 24, .inl (nF cb))), (a4, .inl (cI, 24, .inl (nF pb))), (a5, .inl (cI, 24, .inl (nF pp)))] (fun (r : Int32) (w : va_W) => r = ag k ∧ w = [(a0, .inr (1, [.ref a1, .ref a2, .ref a3, .ref a4, .ref a5, .int (nI n), .int (zI dr)])), (a1, .inl (cI, 24, .inl kd)), (a2, .inl (cI, 24, .inl ag)), (a3, .inl (cI, 24, .inl (nF cb))), (a4, .inl (cI, 24, .inl (nF pb))), (a5, .inl (cI, 24, .inl (nF pp)))]) 0 0 := by
  refine e_M (Qf := fun A => va_Qi (fun (r : Int32) (w : va_W) => r = ag k ∧ w = [(a0, .inr (1, [.ref a1, .ref a2, .ref a3, .ref a4, .ref a5, .int (nI n), .int (zI dr)])), (a1, .inl (cI, 24, .inl kd)), (a2, .inl (cI, 24, .inl ag)), (a3, .inl (cI, 24, .inl (nF cb))), (a4, .inl (cI, 24, .inl (nF pb))), (a5, .inl (cI, 24, .inl (nF pp)))]) (Bw D A) A) (cc := cX1_ageOf) (maxL := 2) (ret := (some .int)) (by decide) rfl (Nat.le_of_ble_eq_true rfl) ?_
  intro p e s m args below meth c ls A Q H locs hx hb hr hml hts hown hlk hnm hc hw hl hQ
  have hl : lv_has ls 2 [(0, .ref a0), (1, .int (nI k))] := hl
  have in_1 : ∀ w ∈ u_ws RX1 TX1 7, w ∈ wsX1_ageOf := fun _ h => List.mem_cons_of_mem _ (List.mem_append_right _ h)
  have lk_0 := hts (.fieldLink RX1 15 "PloughingMatch$Entries" "ages" "[I") (List.mem_of_getElem? (i := 1) rfl)
  refine lv_aload_n hx hb dX1_ageOf_0 rfl (lv_at hl 0 rfl) ?_
  refine w_get (C := RX1) (T := TX1) (N := 7) (ci := 1) hx hb hts in_1 hown hc hw 0 1 rfl rfl (by decide) lk_0 rfl dX1_ageOf_1 ?_
  refine lv_iload_n hx hb dX1_ageOf_4 rfl (lv_at hl 1 rfl) ?_
  refine w_iald hx hb hc hw 2 rfl rfl (i := k) (by omega) (by decide) dX1_ageOf_5 ?_
  subst hQ
  exact r_i hx hb hr rfl hlk hw ⟨rfl, rfl⟩ dX1_ageOf_6
def rm_c_X1_clubOf : Room := { frames := 0, cells := 0, slots := 0, locals := 0 }
set_option maxHeartbeats 4000000 in
set_option maxRecDepth 100000 in
theorem c_X1_clubOf (l : Launch) (D : va_G) (cI cZ cB cJ : ClassId) (b0 : Nat) (adK adV : Nat → Nat) (a0 a1 a2 a3 a4 a5 : Nat) (kd : Nat → Int32) (ag : Nat → Int32) (cb : Nat → Nat) (pb : Nat → Nat) (pp : Nat → Nat) (n : Nat) (dr : Bool) (k : Nat) (hk : k < 24) : Mi l yX1_clubOf wsX1_clubOf rm_c_X1_clubOf D (TYs cI cZ cB cJ) b0 adK adV [.ref a0, .int (nI k)] [(a0, .inr (1, [.ref a1, .ref a2, .ref a3, .ref a4, .ref a5, .int (nI n), .int (zI dr)])), (a1, .inl (cI, 24, .inl kd)), (a2, .inl (cI, 24, .inl ag)), (a3, .inl (cI, 24, .inl (nF cb))), (a4, .inl (cI, 24, .inl (nF pb))), (a5, .inl (cI, 24, .inl (nF pp)))] (fun (r : Int32) (w : va_W) => r = nI (cb k) ∧ w = [(a0, .inr (1, [.ref a1, .ref a2, .ref a3, .ref a4, .ref a5, .int (nI n), .int (zI dr)])), (a1, .inl (cI, 24, .inl kd)), (a2, .inl (cI, 24, .inl ag)), (a3, .inl (cI, 24, .inl (nF cb))), (a4, .inl (cI, 24, .inl (nF pb))), (a5, .inl (cI, 24, .inl (nF pp)))]) 0 0 := by
  refine e_M (Qf := fun A => va_Qi (fun (r : Int32) (w : va_W) => r = nI (cb k) ∧ w = [(a0, .inr (1, [.ref a1, .ref a2, .ref a3, .ref a4, .ref a5, .int (nI n), .int (zI dr)])), (a1, .inl (cI, 24, .inl kd)), (a2, .inl (cI, 24, .inl ag)), (a3, .inl (cI, 24, .inl (nF cb))), (a4, .inl (cI, 24, .inl (nF pb))), (a5, .inl (cI, 24, .inl (nF pp)))]) (Bw D A) A) (cc := cX1_clubOf) (maxL := 2) (ret := (some .int)) (by decide) rfl (Nat.le_of_ble_eq_true rfl) ?_
  intro p e s m args below meth c ls A Q H locs hx hb hr hml hts hown hlk hnm hc hw hl hQ
  have hl : lv_has ls 2 [(0, .ref a0), (1, .int (nI k))] := hl
  have in_1 : ∀ w ∈ u_ws RX1 TX1 7, w ∈ wsX1_clubOf := fun _ h => List.mem_cons_of_mem _ (List.mem_append_right _ h)
  have lk_0 := hts (.fieldLink RX1 18 "PloughingMatch$Entries" "clubs" "[I") (List.mem_of_getElem? (i := 1) rfl)
  refine lv_aload_n hx hb dX1_clubOf_0 rfl (lv_at hl 0 rfl) ?_
  refine w_get (C := RX1) (T := TX1) (N := 7) (ci := 1) hx hb hts in_1 hown hc hw 0 2 rfl rfl (by decide) lk_0 rfl dX1_clubOf_1 ?_
  refine lv_iload_n hx hb dX1_clubOf_4 rfl (lv_at hl 1 rfl) ?_
  refine w_iald hx hb hc hw 3 rfl rfl (i := k) (by omega) (by decide) dX1_clubOf_5 ?_
  refine wn_top (y := nI (cb k)) rfl ?_
  subst hQ
  exact r_i hx hb hr rfl hlk hw ⟨rfl, rfl⟩ dX1_clubOf_6
def rm_c_X1_plotOf : Room := { frames := 0, cells := 0, slots := 0, locals := 0 }
set_option maxHeartbeats 4000000 in
set_option maxRecDepth 100000 in
theorem c_X1_plotOf (l : Launch) (D : va_G) (cI cZ cB cJ : ClassId) (b0 : Nat) (adK adV : Nat → Nat) (a0 a1 a2 a3 a4 a5 : Nat) (kd : Nat → Int32) (ag : Nat → Int32) (cb : Nat → Nat) (pb : Nat → Nat) (pp : Nat → Nat) (n : Nat) (dr : Bool) (k : Nat) (hk : k < 24) : Mi l yX1_plotOf wsX1_plotOf rm_c_X1_plotOf D (TYs cI cZ cB cJ) b0 adK adV [.ref a0, .int (nI k)] [(a0, .inr (1, [.ref a1, .ref a2, .ref a3, .ref a4, .ref a5, .int (nI n), .int (zI dr)])), (a1, .inl (cI, 24, .inl kd)), (a2, .inl (cI, 24, .inl ag)), (a3, .inl (cI, 24, .inl (nF cb))), (a4, .inl (cI, 24, .inl (nF pb))), (a5, .inl (cI, 24, .inl (nF pp)))] (fun (r : Int32) (w : va_W) => r = nI (pb k) ∧ w = [(a0, .inr (1, [.ref a1, .ref a2, .ref a3, .ref a4, .ref a5, .int (nI n), .int (zI dr)])), (a1, .inl (cI, 24, .inl kd)), (a2, .inl (cI, 24, .inl ag)), (a3, .inl (cI, 24, .inl (nF cb))), (a4, .inl (cI, 24, .inl (nF pb))), (a5, .inl (cI, 24, .inl (nF pp)))]) 0 0 := by
  refine e_M (Qf := fun A => va_Qi (fun (r : Int32) (w : va_W) => r = nI (pb k) ∧ w = [(a0, .inr (1, [.ref a1, .ref a2, .ref a3, .ref a4, .ref a5, .int (nI n), .int (zI dr)])), (a1, .inl (cI, 24, .inl kd)), (a2, .inl (cI, 24, .inl ag)), (a3, .inl (cI, 24, .inl (nF cb))), (a4, .inl (cI, 24, .inl (nF pb))), (a5, .inl (cI, 24, .inl (nF pp)))]) (Bw D A) A) (cc := cX1_plotOf) (maxL := 2) (ret := (some .int)) (by decide) rfl (Nat.le_of_ble_eq_true rfl) ?_
  intro p e s m args below meth c ls A Q H locs hx hb hr hml hts hown hlk hnm hc hw hl hQ
  have hl : lv_has ls 2 [(0, .ref a0), (1, .int (nI k))] := hl
  have in_1 : ∀ w ∈ u_ws RX1 TX1 7, w ∈ wsX1_plotOf := fun _ h => List.mem_cons_of_mem _ (List.mem_append_right _ h)
  have lk_0 := hts (.fieldLink RX1 21 "PloughingMatch$Entries" "plotByPloughman" "[I") (List.mem_of_getElem? (i := 1) rfl)
  refine lv_aload_n hx hb dX1_plotOf_0 rfl (lv_at hl 0 rfl) ?_
  refine w_get (C := RX1) (T := TX1) (N := 7) (ci := 1) hx hb hts in_1 hown hc hw 0 3 rfl rfl (by decide) lk_0 rfl dX1_plotOf_1 ?_
  refine lv_iload_n hx hb dX1_plotOf_4 rfl (lv_at hl 1 rfl) ?_
  refine w_iald hx hb hc hw 4 rfl rfl (i := k) (by omega) (by decide) dX1_plotOf_5 ?_
  refine wn_top (y := nI (pb k)) rfl ?_
  subst hQ
  exact r_i hx hb hr rfl hlk hw ⟨rfl, rfl⟩ dX1_plotOf_6
def rm_c_X1_ploughmanOf : Room := { frames := 0, cells := 0, slots := 0, locals := 0 }
set_option maxHeartbeats 4000000 in
set_option maxRecDepth 100000 in
theorem c_X1_ploughmanOf (l : Launch) (D : va_G) (cI cZ cB cJ : ClassId) (b0 : Nat) (adK adV : Nat → Nat) (a0 a1 a2 a3 a4 a5 : Nat) (kd : Nat → Int32) (ag : Nat → Int32) (cb : Nat → Nat) (pb : Nat → Nat) (pp : Nat → Nat) (n : Nat) (dr : Bool) (k : Nat) (hk : k < 24) : Mi l yX1_ploughmanOf wsX1_ploughmanOf rm_c_X1_ploughmanOf D (TYs cI cZ cB cJ) b0 adK adV [.ref a0, .int (nI k)] [(a0, .inr (1, [.ref a1, .ref a2, .ref a3, .ref a4, .ref a5, .int (nI n), .int (zI dr)])), (a1, .inl (cI, 24, .inl kd)), (a2, .inl (cI, 24, .inl ag)), (a3, .inl (cI, 24, .inl (nF cb))), (a4, .inl (cI, 24, .inl (nF pb))), (a5, .inl (cI, 24, .inl (nF pp)))] (fun (r : Int32) (w : va_W) => r = nI (pp k) ∧ w = [(a0, .inr (1, [.ref a1, .ref a2, .ref a3, .ref a4, .ref a5, .int (nI n), .int (zI dr)])), (a1, .inl (cI, 24, .inl kd)), (a2, .inl (cI, 24, .inl ag)), (a3, .inl (cI, 24, .inl (nF cb))), (a4, .inl (cI, 24, .inl (nF pb))), (a5, .inl (cI, 24, .inl (nF pp)))]) 0 0 := by
  refine e_M (Qf := fun A => va_Qi (fun (r : Int32) (w : va_W) => r = nI (pp k) ∧ w = [(a0, .inr (1, [.ref a1, .ref a2, .ref a3, .ref a4, .ref a5, .int (nI n), .int (zI dr)])), (a1, .inl (cI, 24, .inl kd)), (a2, .inl (cI, 24, .inl ag)), (a3, .inl (cI, 24, .inl (nF cb))), (a4, .inl (cI, 24, .inl (nF pb))), (a5, .inl (cI, 24, .inl (nF pp)))]) (Bw D A) A) (cc := cX1_ploughmanOf) (maxL := 2) (ret := (some .int)) (by decide) rfl (Nat.le_of_ble_eq_true rfl) ?_
  intro p e s m args below meth c ls A Q H locs hx hb hr hml hts hown hlk hnm hc hw hl hQ
  have hl : lv_has ls 2 [(0, .ref a0), (1, .int (nI k))] := hl
  have in_1 : ∀ w ∈ u_ws RX1 TX1 7, w ∈ wsX1_ploughmanOf := fun _ h => List.mem_cons_of_mem _ (List.mem_append_right _ h)
  have lk_0 := hts (.fieldLink RX1 24 "PloughingMatch$Entries" "ploughmanByPlot" "[I") (List.mem_of_getElem? (i := 1) rfl)
  refine lv_aload_n hx hb dX1_ploughmanOf_0 rfl (lv_at hl 0 rfl) ?_
  refine w_get (C := RX1) (T := TX1) (N := 7) (ci := 1) hx hb hts in_1 hown hc hw 0 4 rfl rfl (by decide) lk_0 rfl dX1_ploughmanOf_1 ?_
  refine lv_iload_n hx hb dX1_ploughmanOf_4 rfl (lv_at hl 1 rfl) ?_
  refine w_iald hx hb hc hw 5 rfl rfl (i := k) (by omega) (by decide) dX1_ploughmanOf_5 ?_
  refine wn_top (y := nI (pp k)) rfl ?_
  subst hQ
  exact r_i hx hb hr rfl hlk hw ⟨rfl, rfl⟩ dX1_ploughmanOf_6
def rm_c_X1_drawBy : Room := { frames := 2, cells := 0, slots := 0, locals := 43 }
set_option maxHeartbeats 4000000 in
set_option maxRecDepth 100000 in
theorem c_X1_drawBy (l : Launch) (D : va_G) (cI cZ cB cJ : ClassId) (b0 : Nat) (adK adV : Nat → Nat) (a0 a1 a2 a3 a4 a5 z0 z1 : Nat) (kd : Nat → Int32) (ag : Nat → Int32) (cb : Nat → Nat) (pb : Nat → Nat) (pp : Nat → Nat) (n : Nat) (dr : Bool) (nz : Nat → Int32) (nn : Nat) (hn : n ≤ 24) (h1 : 1 ≤ n) (hnn : nn ≤ 30) (hle : n - 1 ≤ nn) : Mv l yX1_drawBy wsX1_drawBy rm_c_X1_drawBy D (TYs cI cZ cB cJ) b0 adK adV [.ref a0, .ref z0] [(a0, .inr (1, [.ref a1, .ref a2, .ref a3, .ref a4, .ref a5, .int (nI n), .int (zI dr)])), (a1, .inl (cI, 24, .inl kd)), (a2, .inl (cI, 24, .inl ag)), (a3, .inl (cI, 24, .inl (nF cb))), (a4, .inl (cI, 24, .inl (nF pb))), (a5, .inl (cI, 24, .inl (nF pp))), (z0, .inr (3, [.ref z1, .int (nI nn)])), (z1, .inl (cI, 30, .inl nz))] (fun w : va_W => w = [(a0, .inr (1, [.ref a1, .ref a2, .ref a3, .ref a4, .ref a5, .int (nI n), .int (zI true)])), (a1, .inl (cI, 24, .inl kd)), (a2, .inl (cI, 24, .inl ag)), (a3, .inl (cI, 24, .inl (nF cb))), (a4, .inl (cI, 24, .inl (nF (dr_pb nz n pb)))), (a5, .inl (cI, 24, .inl (nF (dr_inv (dr_pb nz n pb) pp n)))), (z0, .inr (3, [.ref z1, .int (nI nn)])), (z1, .inl (cI, 30, .inl nz))]) 0 0 := by
  refine e_M (Qf := fun A => va_Qv (fun w : va_W => w = [(a0, .inr (1, [.ref a1, .ref a2, .ref a3, .ref a4, .ref a5, .int (nI n), .int (zI true)])), (a1, .inl (cI, 24, .inl kd)), (a2, .inl (cI, 24, .inl ag)), (a3, .inl (cI, 24, .inl (nF cb))), (a4, .inl (cI, 24, .inl (nF (dr_pb nz n pb)))), (a5, .inl (cI, 24, .inl (nF (dr_inv (dr_pb nz n pb) pp n)))), (z0, .inr (3, [.ref z1, .int (nI nn)])), (z1, .inl (cI, 30, .inl nz))]) (Bw D A) A) (cc := cX1_drawBy) (maxL := 5) (ret := none) (by decide) rfl (Nat.le_of_ble_eq_true rfl) ?_
  intro p e s m args below meth c ls A Q H locs hx hb hr hml hts hown hlk hnm hc hw hl hQ
  have hl : lv_has ls 5 [(0, .ref a0), (1, .ref z0)] := hl
  have in_1 : ∀ w ∈ u_ws RX1 TX1 7, w ∈ wsX1_drawBy := fun _ h => List.mem_cons_of_mem _ (List.mem_append_left _ (List.mem_append_right _ h))
  have lk_0 := hts (.fieldLink RX1 27 "PloughingMatch$Entries" "size" "I") (List.mem_of_getElem? (i := 1) rfl)
  have lk_1 := hts (.fieldLink RX1 31 "PloughingMatch$Entries" "drawn" "Z") (List.mem_of_getElem? (i := 4) rfl)
  have lk_2 := hts (.fieldLink RX1 24 "PloughingMatch$Entries" "ploughmanByPlot" "[I") (List.mem_of_getElem? (i := 3) rfl)
  have lk_3 := hts (.fieldLink RX1 21 "PloughingMatch$Entries" "plotByPloughman" "[I") (List.mem_of_getElem? (i := 2) rfl)
  refine lv_iconst (v := nI 0) hx hb dX1_drawBy_0 (by decide) ?_
  refine lv_istore_n (lv' := [(2, .int (nI 0)), (0, .ref a0), (1, .ref z0)]) hx hb dX1_drawBy_1 rfl hl (by decide) rfl (fun ls hl => ?_)
  have key2 : ∀ (fuel : Nat) (k : Nat) (f1 : Nat → Nat), k ≤ n → f1 = fa_fill (fun k => k) pb k → n - k < fuel → ∀ (H : Heap) (locs : List Loc) (ls : Array Slot), Wd D A s H locs [(a0, .inr (1, [.ref a1, .ref a2, .ref a3, .ref a4, .ref a5, .int (nI n), .int (zI dr)])), (a1, .inl (cI, 24, .inl kd)), (a2, .inl (cI, 24, .inl ag)), (a3, .inl (cI, 24, .inl (nF cb))), (a4, .inl (cI, 24, .inl (nF f1))), (a5, .inl (cI, 24, .inl (nF pp))), (z0, .inr (3, [.ref z1, .int (nI nn)])), (z1, .inl (cI, 30, .inl nz))] → lv_has ls 5 [(0, .ref a0), (1, .ref z0), (2, .int (nI k))] → W p l e rm_c_X1_drawBy s m args below meth c H locs 0 0 Q (F0 m 2 ls []) := by
    intro fuel
    induction fuel with
    | zero => intro k f1 hk e1 hfu; exact absurd hfu (Nat.not_lt_zero _)
    | succ fuel ih =>
      intro k f1 hk e1 hfu H locs ls hw hl
      have ih2 := ih
      refine lv_iload_n hx hb dX1_drawBy_2 rfl (lv_at hl 2 rfl) ?_
      refine lv_aload_n hx hb dX1_drawBy_3 rfl (lv_at hl 0 rfl) ?_
      refine w_get (C := RX1) (T := TX1) (N := 7) (ci := 1) hx hb hts in_1 hown hc hw 0 5 rfl rfl (by decide) lk_0 rfl dX1_drawBy_4 ?_
      refine wb_icmp_ge (tgt := 23) hx hb (by omega) (by omega) dX1_drawBy_7 (by decide) (fun c_1 => ?_) (fun c_1 => ?_)
      · skip
        refine lv_aload_n hx hb dX1_drawBy_23 rfl (lv_at hl 0 rfl) ?_
        refine w_get (C := RX1) (T := TX1) (N := 7) (ci := 1) hx hb hts in_1 hown hc hw 0 5 rfl rfl (by decide) lk_0 rfl dX1_drawBy_24 ?_
        refine lv_iconst (v := nI 1) hx hb dX1_drawBy_27 (by decide) ?_
        refine wn_isub hx hb (by omega) dX1_drawBy_28 ?_
        refine lv_istore_n (lv' := [(2, .int (nI (n - 1))), (0, .ref a0), (1, .ref z0)]) hx hb dX1_drawBy_29 rfl hl (by decide) rfl (fun ls hl => ?_)
        have key30 : ∀ (fuel : Nat) (i : Nat) (f2 : Nat → Nat), i + 1 ≤ n → f2 = dr_sw nz n (fa_fill (fun k => k) pb n) (n - 1 - i) → i < fuel → ∀ (H : Heap) (locs : List Loc) (ls : Array Slot), Wd D A s H locs [(a0, .inr (1, [.ref a1, .ref a2, .ref a3, .ref a4, .ref a5, .int (nI n), .int (zI dr)])), (a1, .inl (cI, 24, .inl kd)), (a2, .inl (cI, 24, .inl ag)), (a3, .inl (cI, 24, .inl (nF cb))), (a4, .inl (cI, 24, .inl (nF f2))), (a5, .inl (cI, 24, .inl (nF pp))), (z0, .inr (3, [.ref z1, .int (nI nn)])), (z1, .inl (cI, 30, .inl nz))] → lv_has ls 5 [(0, .ref a0), (1, .ref z0), (2, .int (nI i))] → W p l e rm_c_X1_drawBy s m args below meth c H locs 0 0 Q (F0 m 30 ls []) := by
          intro fuel
          induction fuel with
          | zero => intro i f2 hi e2 hfu; exact absurd hfu (Nat.not_lt_zero _)
          | succ fuel ih =>
            intro i f2 hi e2 hfu H locs ls hw hl
            have ih30 := ih
            refine lv_iload_n hx hb dX1_drawBy_30 rfl (lv_at hl 2 rfl) ?_
            refine lv_iconst (v := nI 1) hx hb dX1_drawBy_31 (by decide) ?_
            refine wb_icmp_lt (tgt := 85) hx hb (by omega) (by omega) dX1_drawBy_32 (by decide) (fun c_2 => ?_) (fun c_2 => ?_)
            · skip
              have ef : f2 = dr_pb nz n pb := (by rw [e2, show i = 0 by omega]; rfl)
              refine lv_iconst (v := nI 0) hx hb dX1_drawBy_85 (by decide) ?_
              refine lv_istore_n (lv' := [(2, .int (nI 0)), (0, .ref a0), (1, .ref z0)]) hx hb dX1_drawBy_86 rfl hl (by decide) rfl (fun ls hl => ?_)
              have key87 : ∀ (fuel : Nat) (k : Nat) (g1 : Nat → Nat), k ≤ n → g1 = dr_inv (dr_pb nz n pb) pp k → n - k < fuel → ∀ (H : Heap) (locs : List Loc) (ls : Array Slot), Wd D A s H locs [(a0, .inr (1, [.ref a1, .ref a2, .ref a3, .ref a4, .ref a5, .int (nI n), .int (zI dr)])), (a1, .inl (cI, 24, .inl kd)), (a2, .inl (cI, 24, .inl ag)), (a3, .inl (cI, 24, .inl (nF cb))), (a4, .inl (cI, 24, .inl (nF f2))), (a5, .inl (cI, 24, .inl (nF g1))), (z0, .inr (3, [.ref z1, .int (nI nn)])), (z1, .inl (cI, 30, .inl nz))] → lv_has ls 5 [(0, .ref a0), (1, .ref z0), (2, .int (nI k))] → W p l e rm_c_X1_drawBy s m args below meth c H locs 0 0 Q (F0 m 87 ls []) := by
                intro fuel
                induction fuel with
                | zero => intro k g1 hk e3 hfu; exact absurd hfu (Nat.not_lt_zero _)
                | succ fuel ih =>
                  intro k g1 hk e3 hfu H locs ls hw hl
                  have ih87 := ih
                  refine lv_iload_n hx hb dX1_drawBy_87 rfl (lv_at hl 2 rfl) ?_
                  refine lv_aload_n hx hb dX1_drawBy_88 rfl (lv_at hl 0 rfl) ?_
                  refine w_get (C := RX1) (T := TX1) (N := 7) (ci := 1) hx hb hts in_1 hown hc hw 0 5 rfl rfl (by decide) lk_0 rfl dX1_drawBy_89 ?_
                  refine wb_icmp_ge (tgt := 113) hx hb (by omega) (by omega) dX1_drawBy_92 (by decide) (fun c_3 => ?_) (fun c_3 => ?_)
                  · skip
                    refine lv_aload_n hx hb dX1_drawBy_113 rfl (lv_at hl 0 rfl) ?_
                    refine lv_iconst (v := nI 1) hx hb dX1_drawBy_114 (by decide) ?_
                    refine wn_top (y := zI true) rfl ?_
                    refine w_put (C := RX1) (T := TX1) (N := 7) (ci := 1) (v := .int (zI true)) (ws1 := [(a0, .inr (1, [.ref a1, .ref a2, .ref a3, .ref a4, .ref a5, .int (nI n), .int (zI true)])), (a1, .inl (cI, 24, .inl kd)), (a2, .inl (cI, 24, .inl ag)), (a3, .inl (cI, 24, .inl (nF cb))), (a4, .inl (cI, 24, .inl (nF f2))), (a5, .inl (cI, 24, .inl (nF g1))), (z0, .inr (3, [.ref z1, .int (nI nn)])), (z1, .inl (cI, 30, .inl nz))]) hx hb hts in_1 tyX1 tyX1_ok nmX1 hown hc hw 0 6 rfl rfl (by decide) lk_1 rfl (zI_nar _) (zI_fit _) (Nat.le_of_ble_eq_true rfl) rfl dX1_drawBy_115 (fun H locs hw => ?_)
                    subst hQ
                    exact r_v hx hb hr hlk hw (by rw [e3, ef, show k = n by omega]) dX1_drawBy_118
                  · skip
                    refine lv_aload_n hx hb dX1_drawBy_95 rfl (lv_at hl 0 rfl) ?_
                    refine w_get (C := RX1) (T := TX1) (N := 7) (ci := 1) hx hb hts in_1 hown hc hw 0 4 rfl rfl (by decide) lk_2 rfl dX1_drawBy_96 ?_
                    refine lv_aload_n hx hb dX1_drawBy_99 rfl (lv_at hl 0 rfl) ?_
                    refine w_get (C := RX1) (T := TX1) (N := 7) (ci := 1) hx hb hts in_1 hown hc hw 0 3 rfl rfl (by decide) lk_3 rfl dX1_drawBy_100 ?_
                    refine lv_iload_n hx hb dX1_drawBy_103 rfl (lv_at hl 2 rfl) ?_
                    refine w_iald hx hb hc hw 4 rfl rfl (i := k) (by omega) (by decide) dX1_drawBy_104 ?_
                    refine wn_top (y := nI (f2 k)) rfl ?_
                    refine lv_iload_n hx hb dX1_drawBy_105 rfl (lv_at hl 2 rfl) ?_
                    refine w_iast (ws1 := [(a0, .inr (1, [.ref a1, .ref a2, .ref a3, .ref a4, .ref a5, .int (nI n), .int (zI dr)])), (a1, .inl (cI, 24, .inl kd)), (a2, .inl (cI, 24, .inl ag)), (a3, .inl (cI, 24, .inl (nF cb))), (a4, .inl (cI, 24, .inl (nF f2))), (a5, .inl (cI, 24, .inl (nF (va_up g1 (f2 k) k)))), (z0, .inr (3, [.ref z1, .int (nI nn)])), (z1, .inl (cI, 30, .inl nz))]) hx hb hc hw 5 rfl rfl (i := f2 k) (by have := dr_pb_lt (nz := nz) (f := pb) (show k < n by omega); rw [ef]; omega) (by decide) (by rw [nF_upd]; rfl) dX1_drawBy_106 (fun H locs hw => ?_)
                    refine wn_iinc (a := k) (d := 1) (lv' := [(2, .int (nI (k + 1))), (0, .ref a0), (1, .ref z0)]) hx hb dX1_drawBy_107 hl (k := 2) rfl (by decide) rfl (fun ls hl => ?_)
                    refine lv_goto (tgt := 87) hx hb dX1_drawBy_110 (by decide) ?_
                    exact ih87 (k + 1) (va_up g1 (f2 k) k) (by omega) (by rw [e3, ef]; rfl) (by omega) _ _ _ hw (lv_sub hl [1, 2, 0] rfl)
              exact key87 (n - 0 + 1) 0 pp (by omega) rfl (Nat.lt_succ_self _) _ _ _ hw (lv_sub hl [1, 2, 0] rfl)
            · skip
              refine lv_aload_n hx hb dX1_drawBy_35 rfl (lv_at hl 1 rfl) ?_
              refine lv_aload_n hx hb dX1_drawBy_36 rfl (lv_at hl 0 rfl) ?_
              refine w_get (C := RX1) (T := TX1) (N := 7) (ci := 1) hx hb hts in_1 hown hc hw 0 5 rfl rfl (by decide) lk_0 rfl dX1_drawBy_37 ?_
              refine lv_iconst (v := nI 1) hx hb dX1_drawBy_40 (by decide) ?_
              refine wn_isub hx hb (by omega) dX1_drawBy_41 ?_
              refine lv_iload_n hx hb dX1_drawBy_42 rfl (lv_at hl 2 rfl) ?_
              refine wn_isub hx hb (by omega) dX1_drawBy_43 ?_
              refine lv_iload_n hx hb dX1_drawBy_44 rfl (lv_at hl 2 rfl) ?_
              refine lv_iconst (v := nI 1) hx hb dX1_drawBy_45 (by decide) ?_
              refine wn_iadd hx hb dX1_drawBy_46 ?_
              refine k_i (wr := [(a0, .inr (1, [.ref a1, .ref a2, .ref a3, .ref a4, .ref a5, .int (nI n), .int (zI dr)])), (a1, .inl (cI, 24, .inl kd)), (a2, .inl (cI, 24, .inl ag)), (a3, .inl (cI, 24, .inl (nF cb))), (a4, .inl (cI, 24, .inl (nF f2))), (a5, .inl (cI, 24, .inl (nF pp)))]) (j_V ⟨hx, hb, hml, hown, hts⟩ (c_X3_remainder l D cI cZ cB cJ b0 adK adV z0 z1 nz nn ((n - 1) - i) (i + 1) (by omega) (by omega) (by omega) (by omega) H.size) (cwV 2 hts gX1_drawBy_X3_remainder rfl rfl rfl (by decide +kernel) ⟨by decide, by decide⟩) hc hw [6, 7] rfl rfl 3 6 rfl rfl rfl rfl hl.1 rfl (Nat.le_of_ble_eq_true rfl) dX1_drawBy_47 ⟨by decide, by decide⟩) hc hw [6, 7] [0, 1, 2, 3, 4, 5] rfl rfl (by decide) (by decide) (fun r w H locs hq hw => ?_)
              obtain ⟨rfl, rfl⟩ := hq
              have hw : Wd D A s H locs [(a0, .inr (1, [.ref a1, .ref a2, .ref a3, .ref a4, .ref a5, .int (nI n), .int (zI dr)])), (a1, .inl (cI, 24, .inl kd)), (a2, .inl (cI, 24, .inl ag)), (a3, .inl (cI, 24, .inl (nF cb))), (a4, .inl (cI, 24, .inl (nF f2))), (a5, .inl (cI, 24, .inl (nF pp))), (z0, .inr (3, [.ref z1, .int (nI nn)])), (z1, .inl (cI, 30, .inl nz))] := hw
              refine lv_istore_n (lv' := [(3, .int (nI (ns_rem (nz ((n - 1) - i)) (i + 1)))), (0, .ref a0), (1, .ref z0), (2, .int (nI i))]) hx hb dX1_drawBy_50 rfl hl (by decide) rfl (fun ls hl => ?_)
              refine lv_aload_n hx hb dX1_drawBy_51 rfl (lv_at hl 1 rfl) ?_
              refine w_get (C := RX1) (T := TX1) (N := 7) (ci := 1) hx hb hts in_1 hown hc hw 0 3 rfl rfl (by decide) lk_3 rfl dX1_drawBy_52 ?_
              refine lv_iload_n hx hb dX1_drawBy_55 rfl (lv_at hl 3 rfl) ?_
              refine w_iald hx hb hc hw 4 rfl rfl (i := i) (by omega) (by decide) dX1_drawBy_56 ?_
              refine wn_top (y := nI (f2 i)) rfl ?_
              refine lv_istore (lv' := [(4, .int (nI (f2 i))), (3, .int (nI (ns_rem (nz ((n - 1) - i)) (i + 1)))), (0, .ref a0), (1, .ref z0), (2, .int (nI i))]) hx hb dX1_drawBy_57 hl (by decide) rfl (fun ls hl => ?_)
              refine lv_aload_n hx hb dX1_drawBy_59 rfl (lv_at hl 2 rfl) ?_
              refine w_get (C := RX1) (T := TX1) (N := 7) (ci := 1) hx hb hts in_1 hown hc hw 0 3 rfl rfl (by decide) lk_3 rfl dX1_drawBy_60 ?_
              refine lv_iload_n hx hb dX1_drawBy_63 rfl (lv_at hl 4 rfl) ?_
              refine lv_aload_n hx hb dX1_drawBy_64 rfl (lv_at hl 2 rfl) ?_
              refine w_get (C := RX1) (T := TX1) (N := 7) (ci := 1) hx hb hts in_1 hown hc hw 0 3 rfl rfl (by decide) lk_3 rfl dX1_drawBy_65 ?_
              refine lv_iload_n hx hb dX1_drawBy_68 rfl (lv_at hl 1 rfl) ?_
              refine w_iald hx hb hc hw 4 rfl rfl (i := ns_rem (nz ((n - 1) - i)) (i + 1)) (Nat.lt_of_lt_of_le (ns_rem_lt _ (by omega)) (by omega)) (by decide) dX1_drawBy_69 ?_
              refine wn_top (y := nI (f2 (ns_rem (nz ((n - 1) - i)) (i + 1)))) rfl ?_
              refine w_iast (ws1 := [(a0, .inr (1, [.ref a1, .ref a2, .ref a3, .ref a4, .ref a5, .int (nI n), .int (zI dr)])), (a1, .inl (cI, 24, .inl kd)), (a2, .inl (cI, 24, .inl ag)), (a3, .inl (cI, 24, .inl (nF cb))), (a4, .inl (cI, 24, .inl (nF (va_up f2 i (f2 (ns_rem (nz ((n - 1) - i)) (i + 1))))))), (a5, .inl (cI, 24, .inl (nF pp))), (z0, .inr (3, [.ref z1, .int (nI nn)])), (z1, .inl (cI, 30, .inl nz))]) hx hb hc hw 4 rfl rfl (i := i) (by omega) (by decide) (by rw [nF_upd]; rfl) dX1_drawBy_70 (fun H locs hw => ?_)
              refine lv_aload_n hx hb dX1_drawBy_71 rfl (lv_at hl 2 rfl) ?_
              refine w_get (C := RX1) (T := TX1) (N := 7) (ci := 1) hx hb hts in_1 hown hc hw 0 3 rfl rfl (by decide) lk_3 rfl dX1_drawBy_72 ?_
              refine lv_iload_n hx hb dX1_drawBy_75 rfl (lv_at hl 1 rfl) ?_
              refine lv_iload hx hb dX1_drawBy_76 (lv_at hl 0 rfl) ?_
              refine w_iast (ws1 := [(a0, .inr (1, [.ref a1, .ref a2, .ref a3, .ref a4, .ref a5, .int (nI n), .int (zI dr)])), (a1, .inl (cI, 24, .inl kd)), (a2, .inl (cI, 24, .inl ag)), (a3, .inl (cI, 24, .inl (nF cb))), (a4, .inl (cI, 24, .inl (nF (va_up (va_up f2 i (f2 (ns_rem (nz ((n - 1) - i)) (i + 1)))) (ns_rem (nz ((n - 1) - i)) (i + 1)) (f2 i))))), (a5, .inl (cI, 24, .inl (nF pp))), (z0, .inr (3, [.ref z1, .int (nI nn)])), (z1, .inl (cI, 30, .inl nz))]) hx hb hc hw 4 rfl rfl (i := ns_rem (nz ((n - 1) - i)) (i + 1)) (Nat.lt_of_lt_of_le (ns_rem_lt _ (by omega)) (by omega)) (by decide) (by rw [nF_upd]; rfl) dX1_drawBy_78 (fun H locs hw => ?_)
              refine lv_iinc (v := nI (i - 1)) (lv' := [(2, .int (nI (i - 1))), (4, .int (nI (f2 i))), (3, .int (nI (ns_rem (nz ((n - 1) - i)) (i + 1)))), (0, .ref a0), (1, .ref z0)]) hx hb dX1_drawBy_79 hl (k := 4) rfl (sb_m1 (by omega)) (by decide) rfl (fun ls hl => ?_)
              refine lv_goto (tgt := 30) hx hb dX1_drawBy_82 (by decide) ?_
              exact ih30 (i - 1) (va_up (va_up f2 i (f2 (ns_rem (nz ((n - 1) - i)) (i + 1)))) (ns_rem (nz ((n - 1) - i)) (i + 1)) (f2 i)) (by omega) (by rw [show n - 1 - (i - 1) = n - 1 - i + 1 by omega, e2]; simp only [dr_sw, dr_step]; rw [show n - 1 - (n - 1 - i) = i by omega]) (by omega) _ _ _ hw (lv_sub hl [3, 4, 0] rfl)
        exact key30 ((n - 1) + 1) (n - 1) f1 (by omega) (by rw [e1, show k = n by omega, Nat.sub_self]; rfl) (Nat.lt_succ_self _) _ _ _ hw (lv_sub hl [1, 2, 0] rfl)
      · skip
        refine lv_aload_n hx hb dX1_drawBy_10 rfl (lv_at hl 0 rfl) ?_
        refine w_get (C := RX1) (T := TX1) (N := 7) (ci := 1) hx hb hts in_1 hown hc hw 0 3 rfl rfl (by decide) lk_3 rfl dX1_drawBy_11 ?_
        refine lv_iload_n hx hb dX1_drawBy_14 rfl (lv_at hl 2 rfl) ?_
        refine lv_iload_n hx hb dX1_drawBy_15 rfl (lv_at hl 2 rfl) ?_
        refine w_iast (ws1 := [(a0, .inr (1, [.ref a1, .ref a2, .ref a3, .ref a4, .ref a5, .int (nI n), .int (zI dr)])), (a1, .inl (cI, 24, .inl kd)), (a2, .inl (cI, 24, .inl ag)), (a3, .inl (cI, 24, .inl (nF cb))), (a4, .inl (cI, 24, .inl (nF (va_up f1 k k)))), (a5, .inl (cI, 24, .inl (nF pp))), (z0, .inr (3, [.ref z1, .int (nI nn)])), (z1, .inl (cI, 30, .inl nz))]) hx hb hc hw 4 rfl rfl (i := k) (by omega) (by decide) (by rw [nF_upd]; rfl) dX1_drawBy_16 (fun H locs hw => ?_)
        refine wn_iinc (a := k) (d := 1) (lv' := [(2, .int (nI (k + 1))), (0, .ref a0), (1, .ref z0)]) hx hb dX1_drawBy_17 hl (k := 2) rfl (by decide) rfl (fun ls hl => ?_)
        refine lv_goto (tgt := 2) hx hb dX1_drawBy_20 (by decide) ?_
        exact ih2 (k + 1) (va_up f1 k k) (by omega) (by rw [e1]; exact fa_fill_up (fun k => k) _ k) (by omega) _ _ _ hw (lv_sub hl [1, 2, 0] rfl)
  exact key2 (n - 0 + 1) 0 pb (by omega) (fa_fill_0 _ _).symm (Nat.lt_succ_self _) _ _ _ hw (lv_sub hl [1, 2, 0] rfl)
def rm_c_X5_init : Room := { frames := 1, cells := 2, slots := 48, locals := 12 }
set_option maxHeartbeats 4000000 in
set_option maxRecDepth 100000 in
theorem c_X5_init (l : Launch) (D : va_G) (cI cZ cB cJ : ClassId) (b0 : Nat) (adK adV : Nat → Nat) (a0 sh : Nat) : Mv l yX5_init wsX5_init rm_c_X5_init D (TYs cI cZ cB cJ) b0 adK adV [.ref a0, .ref sh] [(a0, .inr (5, [.null, .null, .null, .int (nI 0)]))] (fun w : va_W => ∃ (a1 : Nat) (a2 : Nat), w = [(a0, .inr (5, [.ref sh, .ref a1, .ref a2, .int (nI 200)])), (a1, .inl (cI, 24, .inl (fun _ => 0))), (a2, .inl (cI, 24, .inl (fun _ => 0)))]) 2 48 := by
  refine e_M (Qf := fun A => va_Qv (fun w : va_W => ∃ (a1 : Nat) (a2 : Nat), w = [(a0, .inr (5, [.ref sh, .ref a1, .ref a2, .int (nI 200)])), (a1, .inl (cI, 24, .inl (fun _ => 0))), (a2, .inl (cI, 24, .inl (fun _ => 0)))]) (Bw D A) A) (cc := cX5_init) (maxL := 2) (ret := none) (by decide) rfl (Nat.le_of_ble_eq_true rfl) ?_
  intro p e s m args below meth c ls A Q H locs hx hb hr hml hts hown hlk hnm hc hw hl hQ
  have hl : lv_has ls 2 [(0, .ref a0), (1, .ref sh)] := hl
  have in_5 : ∀ w ∈ u_ws RX5 TX5 4, w ∈ wsX5_init := fun _ h => List.mem_cons_of_mem _ (List.mem_append_right _ h)
  have lk_0 := hts (.methodLink RX5 3 objectInit) (List.mem_of_getElem? (i := 1) rfl)
  have lk_1 := hts (.instanceMethod objectInit) (List.mem_of_getElem? (i := 2) rfl)
  have lk_2 := hts (.arrayClass .int) (List.mem_of_getElem? (i := 4) rfl)
  have lk_3 := hts (.fieldLink RX5 9 "PloughingMatch$Results" "minutesByPlot" "[I") (List.mem_of_getElem? (i := 5) rfl)
  have lk_4 := hts (.fieldLink RX5 15 "PloughingMatch$Results" "offByPlot" "[I") (List.mem_of_getElem? (i := 6) rfl)
  have lk_5 := hts (.fieldLink RX5 18 "PloughingMatch$Results" "allowed" "I") (List.mem_of_getElem? (i := 7) rfl)
  have lk_6 := hts (.fieldLink RX5 22 "PloughingMatch$Results" "sheet" "LPloughingMatch$Sheet;") (List.mem_of_getElem? (i := 8) rfl)
  refine lv_aload_n hx hb dX5_init_0 rfl (lv_at hl 0 rfl) ?_
  refine W.objInit hx hb hown lk_0 lk_1 (hts _ (List.mem_of_getElem? (i := 3) rfl)) rfl (by rw [hml]; exact hl.1) rfl dX5_init_1 (Nat.le_of_ble_eq_true rfl) (Nat.le_of_ble_eq_true rfl) ?_
  refine W.eq (g2 := F0 m 4 ls []) rfl ?_
  refine lv_aload_n hx hb dX5_init_4 rfl (lv_at hl 0 rfl) ?_
  refine lv_bipush (v := nI 24) hx hb dX5_init_5 (by decide) ?_
  refine va_newa hx hb (atype := .int) lk_2 rfl hc.1 hw.1 hw.2.1 hw.2.2 hc.2.1 (a0 := (24, .inl (fun _ => 0))) (fun cA => rfl) (by decide) (nI_clamp (by decide)) (by decide) (by decide) (by decide) dX5_init_7 (fun a1 cA_1 H hK9 hP hD hS => ?_)
  have cA_1e : cA_1 = cI := Option.some.inj ((hK9.2 4 _ rfl).2.symm.trans (hc.1.2 0 _ rfl).2)
  rw [cA_1e] at hP hD
  have hw : Wd D A s H _ [(a0, .inr (5, [.null, .null, .null, .int (nI 0)])), (a1, .inl (cI, 24, .inl (fun _ => 0)))] := ⟨hP, hD, hS⟩
  refine W.widen (k := 1) (n := 24) (by decide) (by decide) ?_
  refine w_putF (C := RX5) (T := TX5) (N := 4) (ci := 5) (v := .ref a1) (ws1 := [(a0, .inr (5, [.null, .ref a1, .null, .int (nI 0)])), (a1, .inl (cI, 24, .inl (fun _ => 0)))]) hx hb hts in_5 tyX5 tyX5_ok nmX5 hown hc hw 0 1 rfl rfl (by decide) lk_3 rfl hnm rfl rfl rfl (Nat.le_of_ble_eq_true rfl) rfl dX5_init_9 (fun H locs hw => ?_)
  refine lv_aload_n hx hb dX5_init_12 rfl (lv_at hl 0 rfl) ?_
  refine lv_bipush (v := nI 24) hx hb dX5_init_13 (by decide) ?_
  refine va_newa hx hb (atype := .int) lk_2 rfl hc.1 hw.1 hw.2.1 hw.2.2 hc.2.1 (a0 := (24, .inl (fun _ => 0))) (fun cA => rfl) (by decide) (nI_clamp (by decide)) (by decide) (by decide) (by decide) dX5_init_15 (fun a2 cA_2 H hK9 hP hD hS => ?_)
  have cA_2e : cA_2 = cI := Option.some.inj ((hK9.2 4 _ rfl).2.symm.trans (hc.1.2 0 _ rfl).2)
  rw [cA_2e] at hP hD
  have hw : Wd D A s H _ [(a0, .inr (5, [.null, .ref a1, .null, .int (nI 0)])), (a1, .inl (cI, 24, .inl (fun _ => 0))), (a2, .inl (cI, 24, .inl (fun _ => 0)))] := ⟨hP, hD, hS⟩
  refine W.widen (k := 2) (n := 48) (by decide) (by decide) ?_
  refine w_putF (C := RX5) (T := TX5) (N := 4) (ci := 5) (v := .ref a2) (ws1 := [(a0, .inr (5, [.null, .ref a1, .ref a2, .int (nI 0)])), (a1, .inl (cI, 24, .inl (fun _ => 0))), (a2, .inl (cI, 24, .inl (fun _ => 0)))]) hx hb hts in_5 tyX5 tyX5_ok nmX5 hown hc hw 0 2 rfl rfl (by decide) lk_4 rfl hnm rfl rfl rfl (Nat.le_of_ble_eq_true rfl) rfl dX5_init_17 (fun H locs hw => ?_)
  refine lv_aload_n hx hb dX5_init_20 rfl (lv_at hl 0 rfl) ?_
  refine lv_sipush (v := nI 200) hx hb dX5_init_21 (by decide) ?_
  refine w_put (C := RX5) (T := TX5) (N := 4) (ci := 5) (v := .int (nI 200)) (ws1 := [(a0, .inr (5, [.null, .ref a1, .ref a2, .int (nI 200)])), (a1, .inl (cI, 24, .inl (fun _ => 0))), (a2, .inl (cI, 24, .inl (fun _ => 0)))]) hx hb hts in_5 tyX5 tyX5_ok nmX5 hown hc hw 0 3 rfl rfl (by decide) lk_5 rfl rfl rfl (Nat.le_of_ble_eq_true rfl) rfl dX5_init_24 (fun H locs hw => ?_)
  refine lv_aload_n hx hb dX5_init_27 rfl (lv_at hl 0 rfl) ?_
  refine lv_aload_n hx hb dX5_init_28 rfl (lv_at hl 1 rfl) ?_
  refine w_putF (C := RX5) (T := TX5) (N := 4) (ci := 5) (v := .ref sh) (ws1 := [(a0, .inr (5, [.ref sh, .ref a1, .ref a2, .int (nI 200)])), (a1, .inl (cI, 24, .inl (fun _ => 0))), (a2, .inl (cI, 24, .inl (fun _ => 0)))]) hx hb hts in_5 tyX5 tyX5_ok nmX5 hown hc hw 0 0 rfl rfl (by decide) lk_6 rfl hnm rfl rfl rfl (Nat.le_of_ble_eq_true rfl) rfl dX5_init_29 (fun H locs hw => ?_)
  subst hQ
  exact r_v hx hb hr hlk hw ⟨a1, a2, rfl⟩ dX5_init_32
def rm_c_X5_minutesOf : Room := { frames := 0, cells := 0, slots := 0, locals := 0 }
set_option maxHeartbeats 4000000 in
set_option maxRecDepth 100000 in
theorem c_X5_minutesOf (l : Launch) (D : va_G) (cI cZ cB cJ : ClassId) (b0 : Nat) (adK adV : Nat → Nat) (a0 sh a1 a2 : Nat) (mi : Nat → Int32) (of_ : Nat → Int32) (al : Int32) (k : Nat) (hk : k < 24) : Mi l yX5_minutesOf wsX5_minutesOf rm_c_X5_minutesOf D (TYs cI cZ cB cJ) b0 adK adV [.ref a0, .int (nI k)] [(a0, .inr (5, [.ref sh, .ref a1, .ref a2, .int al])), (a1, .inl (cI, 24, .inl mi)), (a2, .inl (cI, 24, .inl of_))] (fun (r : Int32) (w : va_W) => r = mi k ∧ w = [(a0, .inr (5, [.ref sh, .ref a1, .ref a2, .int al])), (a1, .inl (cI, 24, .inl mi)), (a2, .inl (cI, 24, .inl of_))]) 0 0 := by
  refine e_M (Qf := fun A => va_Qi (fun (r : Int32) (w : va_W) => r = mi k ∧ w = [(a0, .inr (5, [.ref sh, .ref a1, .ref a2, .int al])), (a1, .inl (cI, 24, .inl mi)), (a2, .inl (cI, 24, .inl of_))]) (Bw D A) A) (cc := cX5_minutesOf) (maxL := 2) (ret := (some .int)) (by decide) rfl (Nat.le_of_ble_eq_true rfl) ?_
  intro p e s m args below meth c ls A Q H locs hx hb hr hml hts hown hlk hnm hc hw hl hQ
  have hl : lv_has ls 2 [(0, .ref a0), (1, .int (nI k))] := hl
  have in_5 : ∀ w ∈ u_ws RX5 TX5 4, w ∈ wsX5_minutesOf := fun _ h => List.mem_cons_of_mem _ (List.mem_append_right _ h)
  have lk_0 := hts (.fieldLink RX5 9 "PloughingMatch$Results" "minutesByPlot" "[I") (List.mem_of_getElem? (i := 1) rfl)
  refine lv_aload_n hx hb dX5_minutesOf_0 rfl (lv_at hl 0 rfl) ?_
  refine w_get (C := RX5) (T := TX5) (N := 4) (ci := 5) hx hb hts in_5 hown hc hw 0 1 rfl rfl (by decide) lk_0 rfl dX5_minutesOf_1 ?_
  refine lv_iload_n hx hb dX5_minutesOf_4 rfl (lv_at hl 1 rfl) ?_
  refine w_iald hx hb hc hw 1 rfl rfl (i := k) (by omega) (by decide) dX5_minutesOf_5 ?_
  subst hQ
  exact r_i hx hb hr rfl hlk hw ⟨rfl, rfl⟩ dX5_minutesOf_6
def rm_c_X5_takenOff : Room := { frames := 0, cells := 0, slots := 0, locals := 0 }
set_option maxHeartbeats 4000000 in
set_option maxRecDepth 100000 in
theorem c_X5_takenOff (l : Launch) (D : va_G) (cI cZ cB cJ : ClassId) (b0 : Nat) (adK adV : Nat → Nat) (a0 sh a1 a2 : Nat) (mi : Nat → Int32) (of_ : Nat → Int32) (al : Int32) (k : Nat) (hk : k < 24) : Mi l yX5_takenOff wsX5_takenOff rm_c_X5_takenOff D (TYs cI cZ cB cJ) b0 adK adV [.ref a0, .int (nI k)] [(a0, .inr (5, [.ref sh, .ref a1, .ref a2, .int al])), (a1, .inl (cI, 24, .inl mi)), (a2, .inl (cI, 24, .inl of_))] (fun (r : Int32) (w : va_W) => r = of_ k ∧ w = [(a0, .inr (5, [.ref sh, .ref a1, .ref a2, .int al])), (a1, .inl (cI, 24, .inl mi)), (a2, .inl (cI, 24, .inl of_))]) 0 0 := by
  refine e_M (Qf := fun A => va_Qi (fun (r : Int32) (w : va_W) => r = of_ k ∧ w = [(a0, .inr (5, [.ref sh, .ref a1, .ref a2, .int al])), (a1, .inl (cI, 24, .inl mi)), (a2, .inl (cI, 24, .inl of_))]) (Bw D A) A) (cc := cX5_takenOff) (maxL := 2) (ret := (some .int)) (by decide) rfl (Nat.le_of_ble_eq_true rfl) ?_
  intro p e s m args below meth c ls A Q H locs hx hb hr hml hts hown hlk hnm hc hw hl hQ
  have hl : lv_has ls 2 [(0, .ref a0), (1, .int (nI k))] := hl
  have in_5 : ∀ w ∈ u_ws RX5 TX5 4, w ∈ wsX5_takenOff := fun _ h => List.mem_cons_of_mem _ (List.mem_append_right _ h)
  have lk_0 := hts (.fieldLink RX5 15 "PloughingMatch$Results" "offByPlot" "[I") (List.mem_of_getElem? (i := 1) rfl)
  refine lv_aload_n hx hb dX5_takenOff_0 rfl (lv_at hl 0 rfl) ?_
  refine w_get (C := RX5) (T := TX5) (N := 4) (ci := 5) hx hb hts in_5 hown hc hw 0 2 rfl rfl (by decide) lk_0 rfl dX5_takenOff_1 ?_
  refine lv_iload_n hx hb dX5_takenOff_4 rfl (lv_at hl 1 rfl) ?_
  refine w_iald hx hb hc hw 2 rfl rfl (i := k) (by omega) (by decide) dX5_takenOff_5 ?_
  subst hQ
  exact r_i hx hb hr rfl hlk hw ⟨rfl, rfl⟩ dX5_takenOff_6
def rm_c_X5_setMinutes : Room := { frames := 0, cells := 0, slots := 0, locals := 0 }
set_option maxHeartbeats 4000000 in
set_option maxRecDepth 100000 in
theorem c_X5_setMinutes (l : Launch) (D : va_G) (cI cZ cB cJ : ClassId) (b0 : Nat) (adK adV : Nat → Nat) (a0 sh a1 a2 : Nat) (mi : Nat → Int32) (of_ : Nat → Int32) (al : Int32) (k : Nat) (v : Int32) (hk : k < 24) : Mi l yX5_setMinutes wsX5_setMinutes rm_c_X5_setMinutes D (TYs cI cZ cB cJ) b0 adK adV [.ref a0, .int (nI k), .int v] [(a0, .inr (5, [.ref sh, .ref a1, .ref a2, .int al])), (a1, .inl (cI, 24, .inl mi)), (a2, .inl (cI, 24, .inl of_))] (fun (r : Int32) (w : va_W) => r = mi k ∧ w = [(a0, .inr (5, [.ref sh, .ref a1, .ref a2, .int al])), (a1, .inl (cI, 24, .inl (upd mi k v))), (a2, .inl (cI, 24, .inl of_))]) 0 0 := by
  refine e_M (Qf := fun A => va_Qi (fun (r : Int32) (w : va_W) => r = mi k ∧ w = [(a0, .inr (5, [.ref sh, .ref a1, .ref a2, .int al])), (a1, .inl (cI, 24, .inl (upd mi k v))), (a2, .inl (cI, 24, .inl of_))]) (Bw D A) A) (cc := cX5_setMinutes) (maxL := 4) (ret := (some .int)) (by decide) rfl (Nat.le_of_ble_eq_true rfl) ?_
  intro p e s m args below meth c ls A Q H locs hx hb hr hml hts hown hlk hnm hc hw hl hQ
  have hl : lv_has ls 4 [(0, .ref a0), (1, .int (nI k)), (2, .int v)] := hl
  have in_5 : ∀ w ∈ u_ws RX5 TX5 4, w ∈ wsX5_setMinutes := fun _ h => List.mem_cons_of_mem _ (List.mem_append_right _ h)
  have lk_0 := hts (.fieldLink RX5 9 "PloughingMatch$Results" "minutesByPlot" "[I") (List.mem_of_getElem? (i := 1) rfl)
  refine lv_aload_n hx hb dX5_setMinutes_0 rfl (lv_at hl 0 rfl) ?_
  refine w_get (C := RX5) (T := TX5) (N := 4) (ci := 5) hx hb hts in_5 hown hc hw 0 1 rfl rfl (by decide) lk_0 rfl dX5_setMinutes_1 ?_
  refine lv_iload_n hx hb dX5_setMinutes_4 rfl (lv_at hl 1 rfl) ?_
  refine w_iald hx hb hc hw 1 rfl rfl (i := k) (by omega) (by decide) dX5_setMinutes_5 ?_
  refine lv_istore_n (lv' := [(3, .int (mi k)), (0, .ref a0), (1, .int (nI k)), (2, .int v)]) hx hb dX5_setMinutes_6 rfl hl (by decide) rfl (fun ls hl => ?_)
  refine lv_aload_n hx hb dX5_setMinutes_7 rfl (lv_at hl 1 rfl) ?_
  refine w_get (C := RX5) (T := TX5) (N := 4) (ci := 5) hx hb hts in_5 hown hc hw 0 1 rfl rfl (by decide) lk_0 rfl dX5_setMinutes_8 ?_
  refine lv_iload_n hx hb dX5_setMinutes_11 rfl (lv_at hl 2 rfl) ?_
  refine lv_iload_n hx hb dX5_setMinutes_12 rfl (lv_at hl 3 rfl) ?_
  refine w_iast (ws1 := [(a0, .inr (5, [.ref sh, .ref a1, .ref a2, .int al])), (a1, .inl (cI, 24, .inl (upd mi k v))), (a2, .inl (cI, 24, .inl of_))]) hx hb hc hw 1 rfl rfl (i := k) (by omega) (by decide) rfl dX5_setMinutes_13 (fun H locs hw => ?_)
  refine lv_iload_n hx hb dX5_setMinutes_14 rfl (lv_at hl 0 rfl) ?_
  subst hQ
  exact r_i hx hb hr rfl hlk hw ⟨rfl, rfl⟩ dX5_setMinutes_15
def rm_c_X5_setLimit : Room := { frames := 0, cells := 0, slots := 0, locals := 0 }
set_option maxHeartbeats 4000000 in
set_option maxRecDepth 100000 in
theorem c_X5_setLimit (l : Launch) (D : va_G) (cI cZ cB cJ : ClassId) (b0 : Nat) (adK adV : Nat → Nat) (a0 sh a1 a2 : Nat) (mi : Nat → Int32) (of_ : Nat → Int32) (al : Int32) (v : Int32) : Mi l yX5_setLimit wsX5_setLimit rm_c_X5_setLimit D (TYs cI cZ cB cJ) b0 adK adV [.ref a0, .int v] [(a0, .inr (5, [.ref sh, .ref a1, .ref a2, .int al])), (a1, .inl (cI, 24, .inl mi)), (a2, .inl (cI, 24, .inl of_))] (fun (r : Int32) (w : va_W) => r = al ∧ w = [(a0, .inr (5, [.ref sh, .ref a1, .ref a2, .int v])), (a1, .inl (cI, 24, .inl mi)), (a2, .inl (cI, 24, .inl of_))]) 0 0 := by
  refine e_M (Qf := fun A => va_Qi (fun (r : Int32) (w : va_W) => r = al ∧ w = [(a0, .inr (5, [.ref sh, .ref a1, .ref a2, .int v])), (a1, .inl (cI, 24, .inl mi)), (a2, .inl (cI, 24, .inl of_))]) (Bw D A) A) (cc := cX5_setLimit) (maxL := 3) (ret := (some .int)) (by decide) rfl (Nat.le_of_ble_eq_true rfl) ?_
  intro p e s m args below meth c ls A Q H locs hx hb hr hml hts hown hlk hnm hc hw hl hQ
  have hl : lv_has ls 3 [(0, .ref a0), (1, .int v)] := hl
  have in_5 : ∀ w ∈ u_ws RX5 TX5 4, w ∈ wsX5_setLimit := fun _ h => List.mem_cons_of_mem _ (List.mem_append_right _ h)
  have lk_0 := hts (.fieldLink RX5 18 "PloughingMatch$Results" "allowed" "I") (List.mem_of_getElem? (i := 1) rfl)
  refine lv_aload_n hx hb dX5_setLimit_0 rfl (lv_at hl 0 rfl) ?_
  refine w_get (C := RX5) (T := TX5) (N := 4) (ci := 5) hx hb hts in_5 hown hc hw 0 3 rfl rfl (by decide) lk_0 rfl dX5_setLimit_1 ?_
  refine lv_istore_n (lv' := [(2, .int al), (0, .ref a0), (1, .int v)]) hx hb dX5_setLimit_4 rfl hl (by decide) rfl (fun ls hl => ?_)
  refine lv_aload_n hx hb dX5_setLimit_5 rfl (lv_at hl 1 rfl) ?_
  refine lv_iload_n hx hb dX5_setLimit_6 rfl (lv_at hl 2 rfl) ?_
  refine w_put (C := RX5) (T := TX5) (N := 4) (ci := 5) (v := .int v) (ws1 := [(a0, .inr (5, [.ref sh, .ref a1, .ref a2, .int v])), (a1, .inl (cI, 24, .inl mi)), (a2, .inl (cI, 24, .inl of_))]) hx hb hts in_5 tyX5 tyX5_ok nmX5 hown hc hw 0 3 rfl rfl (by decide) lk_0 rfl rfl rfl (Nat.le_of_ble_eq_true rfl) rfl dX5_setLimit_7 (fun H locs hw => ?_)
  refine lv_iload_n hx hb dX5_setLimit_10 rfl (lv_at hl 0 rfl) ?_
  subst hQ
  exact r_i hx hb hr rfl hlk hw ⟨rfl, rfl⟩ dX5_setLimit_11
def rm_c_X5_takeOff : Room := { frames := 0, cells := 0, slots := 0, locals := 0 }
set_option maxHeartbeats 4000000 in
set_option maxRecDepth 100000 in
theorem c_X5_takeOff (l : Launch) (D : va_G) (cI cZ cB cJ : ClassId) (b0 : Nat) (adK adV : Nat → Nat) (a0 sh a1 a2 : Nat) (mi : Nat → Int32) (of_ : Nat → Int32) (al : Int32) (k : Nat) (v : Int32) (hk : k < 24) : Mi l yX5_takeOff wsX5_takeOff rm_c_X5_takeOff D (TYs cI cZ cB cJ) b0 adK adV [.ref a0, .int (nI k), .int v] [(a0, .inr (5, [.ref sh, .ref a1, .ref a2, .int al])), (a1, .inl (cI, 24, .inl mi)), (a2, .inl (cI, 24, .inl of_))] (fun (r : Int32) (w : va_W) => r = of_ k + v ∧ w = [(a0, .inr (5, [.ref sh, .ref a1, .ref a2, .int al])), (a1, .inl (cI, 24, .inl mi)), (a2, .inl (cI, 24, .inl (upd of_ k (of_ k + v))))]) 0 0 := by
  refine e_M (Qf := fun A => va_Qi (fun (r : Int32) (w : va_W) => r = of_ k + v ∧ w = [(a0, .inr (5, [.ref sh, .ref a1, .ref a2, .int al])), (a1, .inl (cI, 24, .inl mi)), (a2, .inl (cI, 24, .inl (upd of_ k (of_ k + v))))]) (Bw D A) A) (cc := cX5_takeOff) (maxL := 3) (ret := (some .int)) (by decide) rfl (Nat.le_of_ble_eq_true rfl) ?_
  intro p e s m args below meth c ls A Q H locs hx hb hr hml hts hown hlk hnm hc hw hl hQ
  have hl : lv_has ls 3 [(0, .ref a0), (1, .int (nI k)), (2, .int v)] := hl
  have in_5 : ∀ w ∈ u_ws RX5 TX5 4, w ∈ wsX5_takeOff := fun _ h => List.mem_cons_of_mem _ (List.mem_append_right _ h)
  have lk_0 := hts (.fieldLink RX5 15 "PloughingMatch$Results" "offByPlot" "[I") (List.mem_of_getElem? (i := 1) rfl)
  refine lv_aload_n hx hb dX5_takeOff_0 rfl (lv_at hl 0 rfl) ?_
  refine w_get (C := RX5) (T := TX5) (N := 4) (ci := 5) hx hb hts in_5 hown hc hw 0 2 rfl rfl (by decide) lk_0 rfl dX5_takeOff_1 ?_
  refine lv_iload_n hx hb dX5_takeOff_4 rfl (lv_at hl 1 rfl) ?_
  refine lv_dup2_11 hx hb dX5_takeOff_5 rfl rfl ?_
  refine w_iald hx hb hc hw 2 rfl rfl (i := k) (by omega) (by decide) dX5_takeOff_6 ?_
  refine lv_iload_n hx hb dX5_takeOff_7 rfl (lv_at hl 2 rfl) ?_
  refine lv_iadd hx hb dX5_takeOff_8 ?_
  refine w_iast (ws1 := [(a0, .inr (5, [.ref sh, .ref a1, .ref a2, .int al])), (a1, .inl (cI, 24, .inl mi)), (a2, .inl (cI, 24, .inl (upd of_ k ((of_ k) + v))))]) hx hb hc hw 2 rfl rfl (i := k) (by omega) (by decide) rfl dX5_takeOff_9 (fun H locs hw => ?_)
  refine lv_aload_n hx hb dX5_takeOff_10 rfl (lv_at hl 0 rfl) ?_
  refine w_get (C := RX5) (T := TX5) (N := 4) (ci := 5) hx hb hts in_5 hown hc hw 0 2 rfl rfl (by decide) lk_0 rfl dX5_takeOff_11 ?_
  refine lv_iload_n hx hb dX5_takeOff_14 rfl (lv_at hl 1 rfl) ?_
  refine w_iald hx hb hc hw 2 rfl rfl (i := k) (by omega) (by decide) dX5_takeOff_15 ?_
  refine wn_top (y := of_ k + v) pk_us ?_
  subst hQ
  exact r_i hx hb hr rfl hlk hw ⟨rfl, rfl⟩ dX5_takeOff_16
def rm_c_X5_overtimeOf : Room := { frames := 0, cells := 0, slots := 0, locals := 0 }
set_option maxHeartbeats 4000000 in
set_option maxRecDepth 100000 in
theorem c_X5_overtimeOf (l : Launch) (D : va_G) (cI cZ cB cJ : ClassId) (b0 : Nat) (adK adV : Nat → Nat) (a0 sh a1 a2 : Nat) (mi : Nat → Int32) (of_ : Nat → Int32) (al : Int32) (k : Nat) (hk : k < 24) : Mi l yX5_overtimeOf wsX5_overtimeOf rm_c_X5_overtimeOf D (TYs cI cZ cB cJ) b0 adK adV [.ref a0, .int (nI k)] [(a0, .inr (5, [.ref sh, .ref a1, .ref a2, .int al])), (a1, .inl (cI, 24, .inl mi)), (a2, .inl (cI, 24, .inl of_))] (fun (r : Int32) (w : va_W) => r = rs_ot (mi k) al ∧ w = [(a0, .inr (5, [.ref sh, .ref a1, .ref a2, .int al])), (a1, .inl (cI, 24, .inl mi)), (a2, .inl (cI, 24, .inl of_))]) 0 0 := by
  refine e_M (Qf := fun A => va_Qi (fun (r : Int32) (w : va_W) => r = rs_ot (mi k) al ∧ w = [(a0, .inr (5, [.ref sh, .ref a1, .ref a2, .int al])), (a1, .inl (cI, 24, .inl mi)), (a2, .inl (cI, 24, .inl of_))]) (Bw D A) A) (cc := cX5_overtimeOf) (maxL := 3) (ret := (some .int)) (by decide) rfl (Nat.le_of_ble_eq_true rfl) ?_
  intro p e s m args below meth c ls A Q H locs hx hb hr hml hts hown hlk hnm hc hw hl hQ
  have hl : lv_has ls 3 [(0, .ref a0), (1, .int (nI k))] := hl
  have in_5 : ∀ w ∈ u_ws RX5 TX5 4, w ∈ wsX5_overtimeOf := fun _ h => List.mem_cons_of_mem _ (List.mem_append_right _ h)
  have lk_0 := hts (.fieldLink RX5 9 "PloughingMatch$Results" "minutesByPlot" "[I") (List.mem_of_getElem? (i := 1) rfl)
  have lk_1 := hts (.fieldLink RX5 18 "PloughingMatch$Results" "allowed" "I") (List.mem_of_getElem? (i := 2) rfl)
  refine lv_aload_n hx hb dX5_overtimeOf_0 rfl (lv_at hl 0 rfl) ?_
  refine w_get (C := RX5) (T := TX5) (N := 4) (ci := 5) hx hb hts in_5 hown hc hw 0 1 rfl rfl (by decide) lk_0 rfl dX5_overtimeOf_1 ?_
  refine lv_iload_n hx hb dX5_overtimeOf_4 rfl (lv_at hl 1 rfl) ?_
  refine w_iald hx hb hc hw 1 rfl rfl (i := k) (by omega) (by decide) dX5_overtimeOf_5 ?_
  refine lv_aload_n hx hb dX5_overtimeOf_6 rfl (lv_at hl 0 rfl) ?_
  refine w_get (C := RX5) (T := TX5) (N := 4) (ci := 5) hx hb hts in_5 hown hc hw 0 3 rfl rfl (by decide) lk_1 rfl dX5_overtimeOf_7 ?_
  refine lv_isub hx hb dX5_overtimeOf_10 ?_
  refine lv_istore_n (lv' := [(2, .int ((mi k) - al)), (0, .ref a0), (1, .int (nI k))]) hx hb dX5_overtimeOf_11 rfl hl (by decide) rfl (fun ls hl => ?_)
  refine lv_iload_n hx hb dX5_overtimeOf_12 rfl (lv_at hl 0 rfl) ?_
  refine lv_if_gt (tgt := 20) hx hb dX5_overtimeOf_13 (by decide) (fun c_1 => ?_) (fun c_1 => ?_)
  · skip
    have c_1' := i32_nle.mpr c_1
    refine lv_iload_n hx hb dX5_overtimeOf_20 rfl (lv_at hl 0 rfl) ?_
    refine lv_iconst (v := nI 4) hx hb dX5_overtimeOf_21 (by decide) ?_
    refine lv_iadd hx hb dX5_overtimeOf_22 ?_
    refine lv_iconst (v := nI 5) hx hb dX5_overtimeOf_23 (by decide) ?_
    refine lv_idiv hx hb dX5_overtimeOf_24 (by decide) ?_
    refine lv_bipush (v := nI 50) hx hb dX5_overtimeOf_25 (by decide) ?_
    refine lv_imul hx hb dX5_overtimeOf_27 ?_
    subst hQ
    exact r_i hx hb hr rfl hlk hw ⟨(by simp [rs_ot, c_1, c_1']), rfl⟩ dX5_overtimeOf_28
  · skip
    have c_1' := i32_nlt.mp c_1
    refine lv_iconst (v := nI 0) hx hb dX5_overtimeOf_16 (by decide) ?_
    refine lv_goto (tgt := 28) hx hb dX5_overtimeOf_17 (by decide) ?_
    subst hQ
    exact r_i hx hb hr rfl hlk hw ⟨(by simp [rs_ot, c_1, c_1']), rfl⟩ dX5_overtimeOf_28
