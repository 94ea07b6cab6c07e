/-- a mark's place -/
def ix (j p t : Nat) : Nat := (j * 24 + p) * 5 + t
theorem ix_lt {j p t : Nat} (hj : j < 4) (hp : p < 24) (ht : t < 5) : (j * 24 + p) * 5 + t < 480 := by omega
def hd_s1 (mk : Nat → Int32) (j t p : Nat) : Nat → Int32
  | 0 => 0
  | k + 1 => hd_s1 mk j t p k + (if k ≠ j ∧ mk (ix j p t) ≠ -1 ∧ mk (ix k p t) ≠ -1 then mk (ix k p t) - mk (ix j p t) else 0)
def hd_n1 (mk : Nat → Int32) (j t p : Nat) : Nat → Nat
  | 0 => 0
  | k + 1 => hd_n1 mk j t p k + (if k ≠ j ∧ mk (ix j p t) ≠ -1 ∧ mk (ix k p t) ≠ -1 then 1 else 0)
def hd_s (mk : Nat → Int32) (j t : Nat) : Nat → Int32
  | 0 => 0
  | p + 1 => hd_s mk j t p + hd_s1 mk j t p 4
def hd_n (mk : Nat → Int32) (j t : Nat) : Nat → Nat
  | 0 => 0
  | p + 1 => hd_n mk j t p + hd_n1 mk j t p 4
/-- HARD -/
def hardF (mk : Nat → Int32) (P j t : Nat) : Int32 := if hd_n mk j t P = 0 then nI 0 else fdiv (nI 100 * hd_s mk j t P) (hd_n mk j t P)
theorem hd_n1_le (mk : Nat → Int32) (j t p : Nat) : ∀ k, hd_n1 mk j t p k ≤ k
  | 0 => Nat.le_refl 0
  | k + 1 => by
    have := hd_n1_le mk j t p k
    simp only [hd_n1]; split <;> omega
theorem hd_n_le (mk : Nat → Int32) (j t : Nat) : ∀ p, hd_n mk j t p ≤ 4 * p
  | 0 => Nat.le_refl 0
  | p + 1 => by
    have h1 := hd_n_le mk j t p
    have h2 := hd_n1_le mk j t p 4
    simp only [hd_n]; omega
theorem hd_none {mk : Nat → Int32} {j t p : Nat} (h : mk (ix j p t) = -1) : ∀ k, hd_s1 mk j t p k = 0 ∧ hd_n1 mk j t p k = 0
  | 0 => ⟨rfl, rfl⟩
  | k + 1 => by
    obtain ⟨h1, h2⟩ := hd_none h k
    simp [hd_s1, hd_n1, h1, h2, h]
/-- TOLD, out of the judges' HARD in h -/
def td_s (mk h : Nat → Int32) (p t : Nat) : Nat → Int32
  | 0 => 0
  | j + 1 => td_s mk h p t j + (if mk (ix j p t) = -1 then 0 else nI 100 * mk (ix j p t) + h j)
def td_n (mk : Nat → Int32) (p t : Nat) : Nat → Nat
  | 0 => 0
  | j + 1 => td_n mk p t j + (if mk (ix j p t) = -1 then 0 else 1)
def toldF (mk h : Nat → Int32) (p t : Nat) : Int32 := if td_n mk p t 4 = 0 then (-100000) else fdiv (td_s mk h p t 4) (td_n mk p t 4)
theorem td_n_le (mk : Nat → Int32) (p t : Nat) : ∀ j, td_n mk p t j ≤ j
  | 0 => Nat.le_refl 0
  | j + 1 => by
    have := td_n_le mk p t j
    simp only [td_n]; split <;> omega
/-- one PART worked out anew -/
def wp_h (mk : Nat → Int32) (P t : Nat) (hd : Nat → Int32) : Nat → Nat → Int32
  | 0 => hd
  | j + 1 => upd (wp_h mk P t hd j) (j * 5 + t) (hardF mk P j t)
def wp_t (mk hd : Nat → Int32) (t : Nat) (td : Nat → Int32) : Nat → Nat → Int32
  | 0 => td
  | p + 1 => upd (wp_t mk hd t td p) (p * 5 + t) (toldF mk (fun j => hd (j * 5 + t)) p t)
/-- SUM -/
def sm1 (td : Nat → Int32) (p : Nat) : Nat → Int32
  | 0 => 0
  | t + 1 => sm1 td p t + (if td (p * 5 + t) = (-100000) then nI 0 else td (p * 5 + t))
def sm (td su : Nat → Int32) : Nat → Nat → Int32
  | 0 => su
  | p + 1 => upd (sm td su p) p (sm1 td p 5)
/-- GROUND -/
def gr_all (su : Nat → Int32) : Nat → Int32
  | 0 => 0
  | p + 1 => gr_all su p + su p
def gr_nb (su : Nat → Int32) (P p : Nat) : Int32 := if p = 0 then su 1 else if p = P - 1 then su (p - 1) else fdiv (su (p - 1) + su (p + 1)) 2
def gr_v (su : Nat → Int32) (P p : Nat) : Int32 := fdiv (gr_nb su P p - fdiv (gr_all su P) P) 4
def gr_f (su : Nat → Int32) (P : Nat) (gr : Nat → Int32) : Nat → Nat → Int32
  | 0 => gr
  | p + 1 => upd (gr_f su P gr p) p (gr_v su P p)
def grF (su : Nat → Int32) (P : Nat) (gr : Nat → Int32) : Nat → Int32 := if P < 2 then gr else gr_f su P gr P
def mkI (x : Int32) : Int32 := if x = -1 then nI 0 else nI 1
/-- in how many PARTS none is TOLD -/
def un_n (td : Nat → Int32) (p : Nat) : Nat → Nat
  | 0 => 0
  | t + 1 => un_n td p t + (if td (p * 5 + t) = (-100000) then 1 else 0)
theorem un_n_le (td : Nat → Int32) (p : Nat) : ∀ t, un_n td p t ≤ t
  | 0 => Nat.le_refl 0
  | t + 1 => by
    have := un_n_le td p t
    simp only [un_n]; split <;> omega
def rm_c_X7_init : Room := { frames := 1, cells := 5, slots := 668, locals := 23 }
set_option maxHeartbeats 4000000 in
set_option maxRecDepth 100000 in
theorem c_X7_init (l : Launch) (D : va_G) (cI cZ cB cJ : ClassId) (b0 : Nat) (adK adV : Nat → Nat) (a0 : Nat) : Mv l yX7_init wsX7_init rm_c_X7_init D (TYs cI cZ cB cJ) b0 adK adV [.ref a0] [(a0, .inr (7, [.null, .null, .null, .null, .null, .int (nI 0), .int (nI 0)]))] (fun w : va_W => ∃ (a1 : Nat) (a2 : Nat) (a3 : Nat) (a4 : Nat) (a5 : Nat), w = [(a0, .inr (7, [.ref a1, .ref a2, .ref a3, .ref a4, .ref a5, .int (nI 0), .int (nI 0)])), (a1, .inl (cI, 480, .inl (fa_fill (fun _ => (-1)) (fun _ => 0) 480))), (a2, .inl (cI, 20, .inl (fun _ => 0))), (a3, .inl (cI, 120, .inl (fa_fill (fun _ => (-100000)) (fun _ => 0) 120))), (a4, .inl (cI, 24, .inl (fun _ => 0))), (a5, .inl (cI, 24, .inl (fun _ => 0)))]) 5 668 := by
  refine e_M (Qf := fun A => va_Qv (fun w : va_W => ∃ (a1 : Nat) (a2 : Nat) (a3 : Nat) (a4 : Nat) (a5 : Nat), w = [(a0, .inr (7, [.ref a1, .ref a2, .ref a3, .ref a4, .ref a5, .int (nI 0), .int (nI 0)])), (a1, .inl (cI, 480, .inl (fa_fill (fun _ => (-1)) (fun _ => 0) 480))), (a2, .inl (cI, 20, .inl (fun _ => 0))), (a3, .inl (cI, 120, .inl (fa_fill (fun _ => (-100000)) (fun _ => 0) 120))), (a4, .inl (cI, 24, .inl (fun _ => 0))), (a5, .inl (cI, 24, .inl (fun _ => 0)))]) (Bw D A) A) (cc := cX7_init) (maxL := 1) (ret := none) (by decide) rfl (Nat.le_of_ble_eq_true rfl) ?_
  intro p e s m args below meth c ls A Q H locs hx hb hr hml hts hown hlk hnm hc hw hl hQ
  have hl : lv_has ls 1 [(0, .ref a0)] := hl
  have in_7 : ∀ w ∈ u_ws RX7 TX7 7, w ∈ wsX7_init := fun _ h => List.mem_cons_of_mem _ (List.mem_append_right _ h)
  have lk_0 := hts (.methodLink RX7 3 objectInit) (List.mem_of_getElem? (i := 1) rfl)
  have lk_1 := hts (.instanceMethod objectInit) (List.mem_of_getElem? (i := 2) rfl)
  have lk_2 := hts (.arrayClass .int) (List.mem_of_getElem? (i := 4) rfl)
  have lk_3 := hts (.fieldLink RX7 9 "PloughingMatch$Sheet" "marks" "[I") (List.mem_of_getElem? (i := 5) rfl)
  have lk_4 := hts (.fieldLink RX7 15 "PloughingMatch$Sheet" "hards" "[I") (List.mem_of_getElem? (i := 6) rfl)
  have lk_5 := hts (.fieldLink RX7 18 "PloughingMatch$Sheet" "tolds" "[I") (List.mem_of_getElem? (i := 7) rfl)
  have lk_6 := hts (.fieldLink RX7 21 "PloughingMatch$Sheet" "sums" "[I") (List.mem_of_getElem? (i := 8) rfl)
  have lk_7 := hts (.fieldLink RX7 24 "PloughingMatch$Sheet" "grounds" "[I") (List.mem_of_getElem? (i := 9) rfl)
  have lk_8 := hts (.fieldLink RX7 27 "PloughingMatch$Sheet" "plots" "I") (List.mem_of_getElem? (i := 10) rfl)
  have lk_9 := hts (.fieldLink RX7 31 "PloughingMatch$Sheet" "size" "I") (List.mem_of_getElem? (i := 11) rfl)
  have lk_10 := hts (.constant RX7 40 (-100000)) (List.mem_of_getElem? (i := 12) rfl)
  refine lv_aload_n hx hb dX7_init_0 rfl (lv_at hl 0 rfl) ?_
  refine W.objInit hx hb hown lk_0 lk_1 (hts _ (List.mem_of_getElem? (i := 3) rfl)) rfl (by rw [hml]; exact hl.1) rfl dX7_init_1 (Nat.le_of_ble_eq_true rfl) (Nat.le_of_ble_eq_true rfl) ?_
  refine W.eq (g2 := F0 m 4 ls []) rfl ?_
  refine lv_aload_n hx hb dX7_init_4 rfl (lv_at hl 0 rfl) ?_
  refine lv_sipush (v := nI 480) hx hb dX7_init_5 (by decide) ?_
  refine va_newa hx hb (atype := .int) lk_2 rfl hc.1 hw.1 hw.2.1 hw.2.2 hc.2.1 (a0 := (480, .inl (fun _ => 0))) (fun cA => rfl) (by decide) (nI_clamp (by decide)) (by decide) (by decide) (by decide) dX7_init_8 (fun a1 cA_1 H hK9 hP hD hS => ?_)
  have cA_1e : cA_1 = cI := Option.some.inj ((hK9.2 4 _ rfl).2.symm.trans (hc.1.2 0 _ rfl).2)
  rw [cA_1e] at hP hD
  have hw : Wd D A s H _ [(a0, .inr (7, [.null, .null, .null, .null, .null, .int (nI 0), .int (nI 0)])), (a1, .inl (cI, 480, .inl (fun _ => 0)))] := ⟨hP, hD, hS⟩
  refine W.widen (k := 1) (n := 480) (by decide) (by decide) ?_
  refine w_putF (C := RX7) (T := TX7) (N := 7) (ci := 7) (v := .ref a1) (ws1 := [(a0, .inr (7, [.ref a1, .null, .null, .null, .null, .int (nI 0), .int (nI 0)])), (a1, .inl (cI, 480, .inl (fun _ => 0)))]) hx hb hts in_7 tyX7 tyX7_ok nmX7 hown hc hw 0 0 rfl rfl (by decide) lk_3 rfl hnm rfl rfl rfl (Nat.le_of_ble_eq_true rfl) rfl dX7_init_10 (fun H locs hw => ?_)
  refine lv_aload_n hx hb dX7_init_13 rfl (lv_at hl 0 rfl) ?_
  refine lv_bipush (v := nI 20) hx hb dX7_init_14 (by decide) ?_
  refine va_newa hx hb (atype := .int) lk_2 rfl hc.1 hw.1 hw.2.1 hw.2.2 hc.2.1 (a0 := (20, .inl (fun _ => 0))) (fun cA => rfl) (by decide) (nI_clamp (by decide)) (by decide) (by decide) (by decide) dX7_init_16 (fun a2 cA_2 H hK9 hP hD hS => ?_)
  have cA_2e : cA_2 = cI := Option.some.inj ((hK9.2 4 _ rfl).2.symm.trans (hc.1.2 0 _ rfl).2)
  rw [cA_2e] at hP hD
  have hw : Wd D A s H _ [(a0, .inr (7, [.ref a1, .null, .null, .null, .null, .int (nI 0), .int (nI 0)])), (a1, .inl (cI, 480, .inl (fun _ => 0))), (a2, .inl (cI, 20, .inl (fun _ => 0)))] := ⟨hP, hD, hS⟩
  refine W.widen (k := 2) (n := 500) (by decide) (by decide) ?_
  refine w_putF (C := RX7) (T := TX7) (N := 7) (ci := 7) (v := .ref a2) (ws1 := [(a0, .inr (7, [.ref a1, .ref a2, .null, .null, .null, .int (nI 0), .int (nI 0)])), (a1, .inl (cI, 480, .inl (fun _ => 0))), (a2, .inl (cI, 20, .inl (fun _ => 0)))]) hx hb hts in_7 tyX7 tyX7_ok nmX7 hown hc hw 0 1 rfl rfl (by decide) lk_4 rfl hnm rfl rfl rfl (Nat.le_of_ble_eq_true rfl) rfl dX7_init_18 (fun H locs hw => ?_)
  refine lv_aload_n hx hb dX7_init_21 rfl (lv_at hl 0 rfl) ?_
  refine lv_bipush (v := nI 120) hx hb dX7_init_22 (by decide) ?_
  refine va_newa hx hb (atype := .int) lk_2 rfl hc.1 hw.1 hw.2.1 hw.2.2 hc.2.1 (a0 := (120, .inl (fun _ => 0))) (fun cA => rfl) (by decide) (nI_clamp (by decide)) (by decide) (by decide) (by decide) dX7_init_24 (fun a3 cA_3 H hK9 hP hD hS => ?_)
  have cA_3e : cA_3 = cI := Option.some.inj ((hK9.2 4 _ rfl).2.symm.trans (hc.1.2 0 _ rfl).2)
  rw [cA_3e] at hP hD
  have hw : Wd D A s H _ [(a0, .inr (7, [.ref a1, .ref a2, .null, .null, .null, .int (nI 0), .int (nI 0)])), (a1, .inl (cI, 480, .inl (fun _ => 0))), (a2, .inl (cI, 20, .inl (fun _ => 0))), (a3, .inl (cI, 120, .inl (fun _ => 0)))] := ⟨hP, hD, hS⟩
  refine W.widen (k := 3) (n := 620) (by decide) (by decide) ?_
  refine w_putF (C := RX7) (T := TX7) (N := 7) (ci := 7) (v := .ref a3) (ws1 := [(a0, .inr (7, [.ref a1, .ref a2, .ref a3, .null, .null, .int (nI 0), .int (nI 0)])), (a1, .inl (cI, 480, .inl (fun _ => 0))), (a2, .inl (cI, 20, .inl (fun _ => 0))), (a3, .inl (cI, 120, .inl (fun _ => 0)))]) hx hb hts in_7 tyX7 tyX7_ok nmX7 hown hc hw 0 2 rfl rfl (by decide) lk_5 rfl hnm rfl rfl rfl (Nat.le_of_ble_eq_true rfl) rfl dX7_init_26 (fun H locs hw => ?_)
  refine lv_aload_n hx hb dX7_init_29 rfl (lv_at hl 0 rfl) ?_
  refine lv_bipush (v := nI 24) hx hb dX7_init_30 (by decide) ?_
  refine va_newa hx hb (atype := .int) lk_2 rfl hc.1 hw.1 hw.2.1 hw.2.2 hc.2.1 (a0 := (24, .inl (fun _ => 0))) (fun cA => rfl) (by decide) (nI_clamp (by decide)) (by decide) (by decide) (by decide) dX7_init_32 (fun a4 cA_4 H hK9 hP hD hS => ?_)
  have cA_4e : cA_4 = cI := Option.some.inj ((hK9.2 4 _ rfl).2.symm.trans (hc.1.2 0 _ rfl).2)
  rw [cA_4e] at hP hD
  have hw : Wd D A s H _ [(a0, .inr (7, [.ref a1, .ref a2, .ref a3, .null, .null, .int (nI 0), .int (nI 0)])), (a1, .inl (cI, 480, .inl (fun _ => 0))), (a2, .inl (cI, 20, .inl (fun _ => 0))), (a3, .inl (cI, 120, .inl (fun _ => 0))), (a4, .inl (cI, 24, .inl (fun _ => 0)))] := ⟨hP, hD, hS⟩
  refine W.widen (k := 4) (n := 644) (by decide) (by decide) ?_
  refine w_putF (C := RX7) (T := TX7) (N := 7) (ci := 7) (v := .ref a4) (ws1 := [(a0, .inr (7, [.ref a1, .ref a2, .ref a3, .ref a4, .null, .int (nI 0), .int (nI 0)])), (a1, .inl (cI, 480, .inl (fun _ => 0))), (a2, .inl (cI, 20, .inl (fun _ => 0))), (a3, .inl (cI, 120, .inl (fun _ => 0))), (a4, .inl (cI, 24, .inl (fun _ => 0)))]) hx hb hts in_7 tyX7 tyX7_ok nmX7 hown hc hw 0 3 rfl rfl (by decide) lk_6 rfl hnm rfl rfl rfl (Nat.le_of_ble_eq_true rfl) rfl dX7_init_34 (fun H locs hw => ?_)
  refine lv_aload_n hx hb dX7_init_37 rfl (lv_at hl 0 rfl) ?_
  refine lv_bipush (v := nI 24) hx hb dX7_init_38 (by decide) ?_
  refine va_newa hx hb (atype := .int) lk_2 rfl hc.1 hw.1 hw.2.1 hw.2.2 hc.2.1 (a0 := (24, .inl (fun _ => 0))) (fun cA => rfl) (by decide) (nI_clamp (by decide)) (by decide) (by decide) (by decide) dX7_init_40 (fun a5 cA_5 H hK9 hP hD hS => ?_)
  have cA_5e : cA_5 = cI := Option.some.inj ((hK9.2 4 _ rfl).2.symm.trans (hc.1.2 0 _ rfl).2)
  rw [cA_5e] at hP hD
  have hw : Wd D A s H _ [(a0, .inr (7, [.ref a1, .ref a2, .ref a3, .ref a4, .null, .int (nI 0), .int (nI 0)])), (a1, .inl (cI, 480, .inl (fun _ => 0))), (a2, .inl (cI, 20, .inl (fun _ => 0))), (a3, .inl (cI, 120, .inl (fun _ => 0))), (a4, .inl (cI, 24, .inl (fun _ => 0))), (a5, .inl (cI, 24, .inl (fun _ => 0)))] := ⟨hP, hD, hS⟩
  refine W.widen (k := 5) (n := 668) (by decide) (by decide) ?_
  refine w_putF (C := RX7) (T := TX7) (N := 7) (ci := 7) (v := .ref a5) (ws1 := [(a0, .inr (7, [.ref a1, .ref a2, .ref a3, .ref a4, .ref a5, .int (nI 0), .int (nI 0)])), (a1, .inl (cI, 480, .inl (fun _ => 0))), (a2, .inl (cI, 20, .inl (fun _ => 0))), (a3, .inl (cI, 120, .inl (fun _ => 0))), (a4, .inl (cI, 24, .inl (fun _ => 0))), (a5, .inl (cI, 24, .inl (fun _ => 0)))]) hx hb hts in_7 tyX7 tyX7_ok nmX7 hown hc hw 0 4 rfl rfl (by decide) lk_7 rfl hnm rfl rfl rfl (Nat.le_of_ble_eq_true rfl) rfl dX7_init_42 (fun H locs hw => ?_)
  refine lv_aload_n hx hb dX7_init_45 rfl (lv_at hl 0 rfl) ?_
  refine lv_iconst (v := nI 0) hx hb dX7_init_46 (by decide) ?_
  refine w_put (C := RX7) (T := TX7) (N := 7) (ci := 7) (v := .int (nI 0)) (ws1 := [(a0, .inr (7, [.ref a1, .ref a2, .ref a3, .ref a4, .ref a5, .int (nI 0), .int (nI 0)])), (a1, .inl (cI, 480, .inl (fun _ => 0))), (a2, .inl (cI, 20, .inl (fun _ => 0))), (a3, .inl (cI, 120, .inl (fun _ => 0))), (a4, .inl (cI, 24, .inl (fun _ => 0))), (a5, .inl (cI, 24, .inl (fun _ => 0)))]) hx hb hts in_7 tyX7 tyX7_ok nmX7 hown hc hw 0 5 rfl rfl (by decide) lk_8 rfl rfl rfl (Nat.le_of_ble_eq_true rfl) rfl dX7_init_47 (fun H locs hw => ?_)
  refine lv_aload_n hx hb dX7_init_50 rfl (lv_at hl 0 rfl) ?_
  refine lv_iconst (v := nI 0) hx hb dX7_init_51 (by decide) ?_
  refine w_put (C := RX7) (T := TX7) (N := 7) (ci := 7) (v := .int (nI 0)) (ws1 := [(a0, .inr (7, [.ref a1, .ref a2, .ref a3, .ref a4, .ref a5, .int (nI 0), .int (nI 0)])), (a1, .inl (cI, 480, .inl (fun _ => 0))), (a2, .inl (cI, 20, .inl (fun _ => 0))), (a3, .inl (cI, 120, .inl (fun _ => 0))), (a4, .inl (cI, 24, .inl (fun _ => 0))), (a5, .inl (cI, 24, .inl (fun _ => 0)))]) hx hb hts in_7 tyX7 tyX7_ok nmX7 hown hc hw 0 6 rfl rfl (by decide) lk_9 rfl rfl rfl (Nat.le_of_ble_eq_true rfl) rfl dX7_init_52 (fun H locs hw => ?_)
  refine lv_aload_n hx hb dX7_init_55 rfl (lv_at hl 0 rfl) ?_
  refine w_get (C := RX7) (T := TX7) (N := 7) (ci := 7) hx hb hts in_7 hown hc hw 0 0 rfl rfl (by decide) lk_3 rfl dX7_init_56 ?_
  refine lv_iconst (v := (-1)) hx hb dX7_init_59 (by decide) ?_
  refine k_v (wr := [(a0, .inr (7, [.ref a1, .ref a2, .ref a3, .ref a4, .ref a5, .int (nI 0), .int (nI 0)])), (a2, .inl (cI, 20, .inl (fun _ => 0))), (a3, .inl (cI, 120, .inl (fun _ => 0))), (a4, .inl (cI, 24, .inl (fun _ => 0))), (a5, .inl (cI, 24, .inl (fun _ => 0)))]) (j_S ⟨hx, hb, hml, hown, hts⟩ (c_J7_fill_53178 l D cI cZ cB cJ b0 adK adV a1 480 (fun _ => 0) (-1) (by decide) H.size) (va_cwS 2 hts gX7_init_J7_fill_53178 rfl rfl rfl (by decide +kernel) ⟨by decide, by decide⟩) hc hw [1] rfl rfl rfl hl.1 rfl (Nat.le_of_ble_eq_true rfl) dX7_init_60 ⟨by decide, by decide⟩) hc hw [1] [0, 2, 3, 4, 5] rfl rfl (by decide) (by decide) (fun  w H locs hq hw => ?_)
  subst hq
  have hw : Wd D A s H locs [(a0, .inr (7, [.ref a1, .ref a2, .ref a3, .ref a4, .ref a5, .int (nI 0), .int (nI 0)])), (a1, .inl (cI, 480, .inl (fa_fill (fun _ => (-1)) (fun _ => 0) 480))), (a2, .inl (cI, 20, .inl (fun _ => 0))), (a3, .inl (cI, 120, .inl (fun _ => 0))), (a4, .inl (cI, 24, .inl (fun _ => 0))), (a5, .inl (cI, 24, .inl (fun _ => 0)))] := hw.sub [0, 5, 1, 2, 3, 4] (by decide) rfl
  refine lv_aload_n hx hb dX7_init_63 rfl (lv_at hl 0 rfl) ?_
  refine w_get (C := RX7) (T := TX7) (N := 7) (ci := 7) hx hb hts in_7 hown hc hw 0 2 rfl rfl (by decide) lk_5 rfl dX7_init_64 ?_
  refine lv_ldc (v := (-100000)) hx hb hown lk_10 dX7_init_67 ?_
  refine k_v (wr := [(a0, .inr (7, [.ref a1, .ref a2, .ref a3, .ref a4, .ref a5, .int (nI 0), .int (nI 0)])), (a1, .inl (cI, 480, .inl (fa_fill (fun _ => (-1)) (fun _ => 0) 480))), (a2, .inl (cI, 20, .inl (fun _ => 0))), (a4, .inl (cI, 24, .inl (fun _ => 0))), (a5, .inl (cI, 24, .inl (fun _ => 0)))]) (j_S ⟨hx, hb, hml, hown, hts⟩ (c_J7_fill_53178 l D cI cZ cB cJ b0 adK adV a3 120 (fun _ => 0) (-100000) (by decide) H.size) (va_cwS 2 hts gX7_init_J7_fill_53178 rfl rfl rfl (by decide +kernel) ⟨by decide, by decide⟩) hc hw [3] rfl rfl rfl hl.1 rfl (Nat.le_of_ble_eq_true rfl) dX7_init_69 ⟨by decide, by decide⟩) hc hw [3] [0, 1, 2, 4, 5] rfl rfl (by decide) (by decide) (fun  w H locs hq hw => ?_)
  subst hq
  have hw : Wd D A s H locs [(a0, .inr (7, [.ref a1, .ref a2, .ref a3, .ref a4, .ref a5, .int (nI 0), .int (nI 0)])), (a1, .inl (cI, 480, .inl (fa_fill (fun _ => (-1)) (fun _ => 0) 480))), (a2, .inl (cI, 20, .inl (fun _ => 0))), (a3, .inl (cI, 120, .inl (fa_fill (fun _ => (-100000)) (fun _ => 0) 120))), (a4, .inl (cI, 24, .inl (fun _ => 0))), (a5, .inl (cI, 24, .inl (fun _ => 0)))] := hw.sub [0, 1, 2, 5, 3, 4] (by decide) rfl
  subst hQ
  exact r_v hx hb hr hlk hw ⟨a1, a2, a3, a4, a5, rfl⟩ dX7_init_72
def rm_c_X7_open : Room := { frames := 0, cells := 0, slots := 0, locals := 0 }
set_option maxHeartbeats 4000000 in
set_option maxRecDepth 100000 in
theorem c_X7_open (l : Launch) (D : va_G) (cI cZ cB cJ : ClassId) (b0 : Nat) (adK adV : Nat → Nat) (a0 a1 a2 a3 a4 a5 : Nat) (mk : Nat → Int32) (hd : Nat → Int32) (td : Nat → Int32) (su : Nat → Int32) (gr : Nat → Int32) (P : Nat) (sz : Int32) (P1 : Nat) : Mv l yX7_open wsX7_open rm_c_X7_open D (TYs cI cZ cB cJ) b0 adK adV [.ref a0, .int (nI P1)] [(a0, .inr (7, [.ref a1, .ref a2, .ref a3, .ref a4, .ref a5, .int (nI P), .int sz])), (a1, .inl (cI, 480, .inl mk)), (a2, .inl (cI, 20, .inl hd)), (a3, .inl (cI, 120, .inl td)), (a4, .inl (cI, 24, .inl su)), (a5, .inl (cI, 24, .inl gr))] (fun w : va_W => w = [(a0, .inr (7, [.ref a1, .ref a2, .ref a3, .ref a4, .ref a5, .int (nI P1), .int sz])), (a1, .inl (cI, 480, .inl mk)), (a2, .inl (cI, 20, .inl hd)), (a3, .inl (cI, 120, .inl td)), (a4, .inl (cI, 24, .inl su)), (a5, .inl (cI, 24, .inl gr))]) 0 0 := by
  refine e_M (Qf := fun A => va_Qv (fun w : va_W => w = [(a0, .inr (7, [.ref a1, .ref a2, .ref a3, .ref a4, .ref a5, .int (nI P1), .int sz])), (a1, .inl (cI, 480, .inl mk)), (a2, .inl (cI, 20, .inl hd)), (a3, .inl (cI, 120, .inl td)), (a4, .inl (cI, 24, .inl su)), (a5, .inl (cI, 24, .inl gr))]) (Bw D A) A) (cc := cX7_open) (maxL := 2) (ret := none) (by decide) rfl (Nat.le_of_ble_eq_true rfl) ?_
  intro p e s m args below meth c ls A Q H locs hx hb hr hml hts hown hlk hnm hc hw hl hQ
  have hl : lv_has ls 2 [(0, .ref a0), (1, .int (nI P1))] := hl
  have in_7 : ∀ w ∈ u_ws RX7 TX7 7, w ∈ wsX7_open := fun _ h => List.mem_cons_of_mem _ (List.mem_append_right _ h)
  have lk_0 := hts (.fieldLink RX7 27 "PloughingMatch$Sheet" "plots" "I") (List.mem_of_getElem? (i := 1) rfl)
  refine lv_aload_n hx hb dX7_open_0 rfl (lv_at hl 0 rfl) ?_
  refine lv_iload_n hx hb dX7_open_1 rfl (lv_at hl 1 rfl) ?_
  refine w_put (C := RX7) (T := TX7) (N := 7) (ci := 7) (v := .int (nI P1)) (ws1 := [(a0, .inr (7, [.ref a1, .ref a2, .ref a3, .ref a4, .ref a5, .int (nI P1), .int sz])), (a1, .inl (cI, 480, .inl mk)), (a2, .inl (cI, 20, .inl hd)), (a3, .inl (cI, 120, .inl td)), (a4, .inl (cI, 24, .inl su)), (a5, .inl (cI, 24, .inl gr))]) hx hb hts in_7 tyX7 tyX7_ok nmX7 hown hc hw 0 5 rfl rfl (by decide) lk_0 rfl rfl rfl (Nat.le_of_ble_eq_true rfl) rfl dX7_open_2 (fun H locs hw => ?_)
  subst hQ
  exact r_v hx hb hr hlk hw rfl dX7_open_5
def rm_c_X7_size : Room := { frames := 0, cells := 0, slots := 0, locals := 0 }
set_option maxHeartbeats 4000000 in
set_option maxRecDepth 100000 in
theorem c_X7_size (l : Launch) (D : va_G) (cI cZ cB cJ : ClassId) (b0 : Nat) (adK adV : Nat → Nat) (a0 a1 a2 a3 a4 a5 : Nat) (mk : Nat → Int32) (hd : Nat → Int32) (td : Nat → Int32) (su : Nat → Int32) (gr : Nat → Int32) (P : Nat) (sz : Int32) : Mi l yX7_size wsX7_size rm_c_X7_size D (TYs cI cZ cB cJ) b0 adK adV [.ref a0] [(a0, .inr (7, [.ref a1, .ref a2, .ref a3, .ref a4, .ref a5, .int (nI P), .int sz])), (a1, .inl (cI, 480, .inl mk)), (a2, .inl (cI, 20, .inl hd)), (a3, .inl (cI, 120, .inl td)), (a4, .inl (cI, 24, .inl su)), (a5, .inl (cI, 24, .inl gr))] (fun (r : Int32) (w : va_W) => r = sz ∧ w = [(a0, .inr (7, [.ref a1, .ref a2, .ref a3, .ref a4, .ref a5, .int (nI P), .int sz])), (a1, .inl (cI, 480, .inl mk)), (a2, .inl (cI, 20, .inl hd)), (a3, .inl (cI, 120, .inl td)), (a4, .inl (cI, 24, .inl su)), (a5, .inl (cI, 24, .inl gr))]) 0 0 := by
  refine e_M (Qf := fun A => va_Qi (fun (r : Int32) (w : va_W) => r = sz ∧ w = [(a0, .inr (7, [.ref a1, .ref a2, .ref a3, .ref a4, .ref a5, .int (nI P), .int sz])), (a1, .inl (cI, 480, .inl mk)), (a2, .inl (cI, 20, .inl hd)), (a3, .inl (cI, 120, .inl td)), (a4, .inl (cI, 24, .inl su)), (a5, .inl (cI, 24, .inl gr))]) (Bw D A) A) (cc := cX7_size) (maxL := 1) (ret := (some .int)) (by decide) rfl (Nat.le_of_ble_eq_true rfl) ?_
  intro p e s m args below meth c ls A Q H locs hx hb hr hml hts hown hlk hnm hc hw hl hQ
  have hl : lv_has ls 1 [(0, .ref a0)] := hl
  have in_7 : ∀ w ∈ u_ws RX7 TX7 7, w ∈ wsX7_size := fun _ h => List.mem_cons_of_mem _ (List.mem_append_right _ h)
  have lk_0 := hts (.fieldLink RX7 31 "PloughingMatch$Sheet" "size" "I") (List.mem_of_getElem? (i := 1) rfl)
  refine lv_aload_n hx hb dX7_size_0 rfl (lv_at hl 0 rfl) ?_
  refine w_get (C := RX7) (T := TX7) (N := 7) (ci := 7) hx hb hts in_7 hown hc hw 0 6 rfl rfl (by decide) lk_0 rfl dX7_size_1 ?_
  subst hQ
  exact r_i hx hb hr rfl hlk hw ⟨rfl, rfl⟩ dX7_size_4
def rm_c_X7_hardOf : Room := { frames := 0, cells := 0, slots := 0, locals := 0 }
set_option maxHeartbeats 4000000 in
set_option maxRecDepth 100000 in
theorem c_X7_hardOf (l : Launch) (D : va_G) (cI cZ cB cJ : ClassId) (b0 : Nat) (adK adV : Nat → Nat) (a0 a1 a2 a3 a4 a5 : Nat) (mk : Nat → Int32) (hd : Nat → Int32) (td : Nat → Int32) (su : Nat → Int32) (gr : Nat → Int32) (P : Nat) (sz : Int32) (j : Nat) (t : Nat) (hj : j < 4) (ht : t < 5) : Mi l yX7_hardOf wsX7_hardOf rm_c_X7_hardOf D (TYs cI cZ cB cJ) b0 adK adV [.ref a0, .int (nI j), .int (nI t)] [(a0, .inr (7, [.ref a1, .ref a2, .ref a3, .ref a4, .ref a5, .int (nI P), .int sz])), (a1, .inl (cI, 480, .inl mk)), (a2, .inl (cI, 20, .inl hd)), (a3, .inl (cI, 120, .inl td)), (a4, .inl (cI, 24, .inl su)), (a5, .inl (cI, 24, .inl gr))] (fun (r : Int32) (w : va_W) => r = hd (j * 5 + t) ∧ w = [(a0, .inr (7, [.ref a1, .ref a2, .ref a3, .ref a4, .ref a5, .int (nI P), .int sz])), (a1, .inl (cI, 480, .inl mk)), (a2, .inl (cI, 20, .inl hd)), (a3, .inl (cI, 120, .inl td)), (a4, .inl (cI, 24, .inl su)), (a5, .inl (cI, 24, .inl gr))]) 0 0 := by
  refine e_M (Qf := fun A => va_Qi (fun (r : Int32) (w : va_W) => r = hd (j * 5 + t) ∧ w = [(a0, .inr (7, [.ref a1, .ref a2, .ref a3, .ref a4, .ref a5, .int (nI P), .int sz])), (a1, .inl (cI, 480, .inl mk)), (a2, .inl (cI, 20, .inl hd)), (a3, .inl (cI, 120, .inl td)), (a4, .inl (cI, 24, .inl su)), (a5, .inl (cI, 24, .inl gr))]) (Bw D A) A) (cc := cX7_hardOf) (maxL := 3) (ret := (some .int)) (by decide) rfl (Nat.le_of_ble_eq_true rfl) ?_
  intro p e s m args below meth c ls A Q H locs hx hb hr hml hts hown hlk hnm hc hw hl hQ
  have hl : lv_has ls 3 [(0, .ref a0), (1, .int (nI j)), (2, .int (nI t))] := hl
  have in_7 : ∀ w ∈ u_ws RX7 TX7 7, w ∈ wsX7_hardOf := fun _ h => List.mem_cons_of_mem _ (List.mem_append_right _ h)
  have lk_0 := hts (.fieldLink RX7 15 "PloughingMatch$Sheet" "hards" "[I") (List.mem_of_getElem? (i := 1) rfl)
  refine lv_aload_n hx hb dX7_hardOf_0 rfl (lv_at hl 0 rfl) ?_
  refine w_get (C := RX7) (T := TX7) (N := 7) (ci := 7) hx hb hts in_7 hown hc hw 0 1 rfl rfl (by decide) lk_0 rfl dX7_hardOf_1 ?_
  refine lv_iload_n hx hb dX7_hardOf_4 rfl (lv_at hl 1 rfl) ?_
  refine lv_iconst (v := nI 5) hx hb dX7_hardOf_5 (by decide) ?_
  refine wn_imul hx hb dX7_hardOf_6 ?_
  refine lv_iload_n hx hb dX7_hardOf_7 rfl (lv_at hl 2 rfl) ?_
  refine wn_iadd hx hb dX7_hardOf_8 ?_
  refine w_iald hx hb hc hw 2 rfl rfl (i := j * 5 + t) (by omega) (by decide) dX7_hardOf_9 ?_
  subst hQ
  exact r_i hx hb hr rfl hlk hw ⟨rfl, rfl⟩ dX7_hardOf_10
def rm_c_X7_toldOf : Room := { frames := 0, cells := 0, slots := 0, locals := 0 }
set_option maxHeartbeats 4000000 in
set_option maxRecDepth 100000 in
theorem c_X7_toldOf (l : Launch) (D : va_G) (cI cZ cB cJ : ClassId) (b0 : Nat) (adK adV : Nat → Nat) (a0 a1 a2 a3 a4 a5 : Nat) (mk : Nat → Int32) (hd : Nat → Int32) (td : Nat → Int32) (su : Nat → Int32) (gr : Nat → Int32) (P : Nat) (sz : Int32) (q : Nat) (t : Nat) (hq : q < 24) (ht : t < 5) : Mi l yX7_toldOf wsX7_toldOf rm_c_X7_toldOf D (TYs cI cZ cB cJ) b0 adK adV [.ref a0, .int (nI q), .int (nI t)] [(a0, .inr (7, [.ref a1, .ref a2, .ref a3, .ref a4, .ref a5, .int (nI P), .int sz])), (a1, .inl (cI, 480, .inl mk)), (a2, .inl (cI, 20, .inl hd)), (a3, .inl (cI, 120, .inl td)), (a4, .inl (cI, 24, .inl su)), (a5, .inl (cI, 24, .inl gr))] (fun (r : Int32) (w : va_W) => r = td (q * 5 + t) ∧ w = [(a0, .inr (7, [.ref a1, .ref a2, .ref a3, .ref a4, .ref a5, .int (nI P), .int sz])), (a1, .inl (cI, 480, .inl mk)), (a2, .inl (cI, 20, .inl hd)), (a3, .inl (cI, 120, .inl td)), (a4, .inl (cI, 24, .inl su)), (a5, .inl (cI, 24, .inl gr))]) 0 0 := by
  refine e_M (Qf := fun A => va_Qi (fun (r : Int32) (w : va_W) => r = td (q * 5 + t) ∧ w = [(a0, .inr (7, [.ref a1, .ref a2, .ref a3, .ref a4, .ref a5, .int (nI P), .int sz])), (a1, .inl (cI, 480, .inl mk)), (a2, .inl (cI, 20, .inl hd)), (a3, .inl (cI, 120, .inl td)), (a4, .inl (cI, 24, .inl su)), (a5, .inl (cI, 24, .inl gr))]) (Bw D A) A) (cc := cX7_toldOf) (maxL := 3) (ret := (some .int)) (by decide) rfl (Nat.le_of_ble_eq_true rfl) ?_
  intro p e s m args below meth c ls A Q H locs hx hb hr hml hts hown hlk hnm hc hw hl hQ
  have hl : lv_has ls 3 [(0, .ref a0), (1, .int (nI q)), (2, .int (nI t))] := hl
  have in_7 : ∀ w ∈ u_ws RX7 TX7 7, w ∈ wsX7_toldOf := fun _ h => List.mem_cons_of_mem _ (List.mem_append_right _ h)
  have lk_0 := hts (.fieldLink RX7 18 "PloughingMatch$Sheet" "tolds" "[I") (List.mem_of_getElem? (i := 1) rfl)
  refine lv_aload_n hx hb dX7_toldOf_0 rfl (lv_at hl 0 rfl) ?_
  refine w_get (C := RX7) (T := TX7) (N := 7) (ci := 7) hx hb hts in_7 hown hc hw 0 2 rfl rfl (by decide) lk_0 rfl dX7_toldOf_1 ?_
  refine lv_iload_n hx hb dX7_toldOf_4 rfl (lv_at hl 1 rfl) ?_
  refine lv_iconst (v := nI 5) hx hb dX7_toldOf_5 (by decide) ?_
  refine wn_imul hx hb dX7_toldOf_6 ?_
  refine lv_iload_n hx hb dX7_toldOf_7 rfl (lv_at hl 2 rfl) ?_
  refine wn_iadd hx hb dX7_toldOf_8 ?_
  refine w_iald hx hb hc hw 3 rfl rfl (i := q * 5 + t) (by omega) (by decide) dX7_toldOf_9 ?_
  subst hQ
  exact r_i hx hb hr rfl hlk hw ⟨rfl, rfl⟩ dX7_toldOf_10
def rm_c_X7_sumOf : Room := { frames := 0, cells := 0, slots := 0, locals := 0 }
set_option maxHeartbeats 4000000 in
set_option maxRecDepth 100000 in
theorem c_X7_sumOf (l : Launch) (D : va_G) (cI cZ cB cJ : ClassId) (b0 : Nat) (adK adV : Nat → Nat) (a0 a1 a2 a3 a4 a5 : Nat) (mk : Nat → Int32) (hd : Nat → Int32) (td : Nat → Int32) (su : Nat → Int32) (gr : Nat → Int32) (P : Nat) (sz : Int32) (q : Nat) (hq : q < 24) : Mi l yX7_sumOf wsX7_sumOf rm_c_X7_sumOf D (TYs cI cZ cB cJ) b0 adK adV [.ref a0, .int (nI q)] [(a0, .inr (7, [.ref a1, .ref a2, .ref a3, .ref a4, .ref a5, .int (nI P), .int sz])), (a1, .inl (cI, 480, .inl mk)), (a2, .inl (cI, 20, .inl hd)), (a3, .inl (cI, 120, .inl td)), (a4, .inl (cI, 24, .inl su)), (a5, .inl (cI, 24, .inl gr))] (fun (r : Int32) (w : va_W) => r = su q ∧ w = [(a0, .inr (7, [.ref a1, .ref a2, .ref a3, .ref a4, .ref a5, .int (nI P), .int sz])), (a1, .inl (cI, 480, .inl mk)), (a2, .inl (cI, 20, .inl hd)), (a3, .inl (cI, 120, .inl td)), (a4, .inl (cI, 24, .inl su)), (a5, .inl (cI, 24, .inl gr))]) 0 0 := by
  refine e_M (Qf := fun A => va_Qi (fun (r : Int32) (w : va_W) => r = su q ∧ w = [(a0, .inr (7, [.ref a1, .ref a2, .ref a3, .ref a4, .ref a5, .int (nI P), .int sz])), (a1, .inl (cI, 480, .inl mk)), (a2, .inl (cI, 20, .inl hd)), (a3, .inl (cI, 120, .inl td)), (a4, .inl (cI, 24, .inl su)), (a5, .inl (cI, 24, .inl gr))]) (Bw D A) A) (cc := cX7_sumOf) (maxL := 2) (ret := (some .int)) (by decide) rfl (Nat.le_of_ble_eq_true rfl) ?_
  intro p e s m args below meth c ls A Q H locs hx hb hr hml hts hown hlk hnm hc hw hl hQ
  have hl : lv_has ls 2 [(0, .ref a0), (1, .int (nI q))] := hl
  have in_7 : ∀ w ∈ u_ws RX7 TX7 7, w ∈ wsX7_sumOf := fun _ h => List.mem_cons_of_mem _ (List.mem_append_right _ h)
  have lk_0 := hts (.fieldLink RX7 21 "PloughingMatch$Sheet" "sums" "[I") (List.mem_of_getElem? (i := 1) rfl)
  refine lv_aload_n hx hb dX7_sumOf_0 rfl (lv_at hl 0 rfl) ?_
  refine w_get (C := RX7) (T := TX7) (N := 7) (ci := 7) hx hb hts in_7 hown hc hw 0 3 rfl rfl (by decide) lk_0 rfl dX7_sumOf_1 ?_
  refine lv_iload_n hx hb dX7_sumOf_4 rfl (lv_at hl 1 rfl) ?_
  refine w_iald hx hb hc hw 4 rfl rfl (i := q) (by omega) (by decide) dX7_sumOf_5 ?_
  subst hQ
  exact r_i hx hb hr rfl hlk hw ⟨rfl, rfl⟩ dX7_sumOf_6
def rm_c_X7_groundOf : Room := { frames := 0, cells := 0, slots := 0, locals := 0 }
set_option maxHeartbeats 4000000 in
set_option maxRecDepth 100000 in
theorem c_X7_groundOf (l : Launch) (D : va_G) (cI cZ cB cJ : ClassId) (b0 : Nat) (adK adV : Nat → Nat) (a0 a1 a2 a3 a4 a5 : Nat) (mk : Nat → Int32) (hd : Nat → Int32) (td : Nat → Int32) (su : Nat → Int32) (gr : Nat → Int32) (P : Nat) (sz : Int32) (q : Nat) (hq : q < 24) : Mi l yX7_groundOf wsX7_groundOf rm_c_X7_groundOf D (TYs cI cZ cB cJ) b0 adK adV [.ref a0, .int (nI q)] [(a0, .inr (7, [.ref a1, .ref a2, .ref a3, .ref a4, .ref a5, .int (nI P), .int sz])), (a1, .inl (cI, 480, .inl mk)), (a2, .inl (cI, 20, .inl hd)), (a3, .inl (cI, 120, .inl td)), (a4, .inl (cI, 24, .inl su)), (a5, .inl (cI, 24, .inl gr))] (fun (r : Int32) (w : va_W) => r = gr q ∧ w = [(a0, .inr (7, [.ref a1, .ref a2, .ref a3, .ref a4, .ref a5, .int (nI P), .int sz])), (a1, .inl (cI, 480, .inl mk)), (a2, .inl (cI, 20, .inl hd)), (a3, .inl (cI, 120, .inl td)), (a4, .inl (cI, 24, .inl su)), (a5, .inl (cI, 24, .inl gr))]) 0 0 := by
  refine e_M (Qf := fun A => va_Qi (fun (r : Int32) (w : va_W) => r = gr q ∧ w = [(a0, .inr (7, [.ref a1, .ref a2, .ref a3, .ref a4, .ref a5, .int (nI P), .int sz])), (a1, .inl (cI, 480, .inl mk)), (a2, .inl (cI, 20, .inl hd)), (a3, .inl (cI, 120, .inl td)), (a4, .inl (cI, 24, .inl su)), (a5, .inl (cI, 24, .inl gr))]) (Bw D A) A) (cc := cX7_groundOf) (maxL := 2) (ret := (some .int)) (by decide) rfl (Nat.le_of_ble_eq_true rfl) ?_
  intro p e s m args below meth c ls A Q H locs hx hb hr hml hts hown hlk hnm hc hw hl hQ
  have hl : lv_has ls 2 [(0, .ref a0), (1, .int (nI q))] := hl
  have in_7 : ∀ w ∈ u_ws RX7 TX7 7, w ∈ wsX7_groundOf := fun _ h => List.mem_cons_of_mem _ (List.mem_append_right _ h)
  have lk_0 := hts (.fieldLink RX7 24 "PloughingMatch$Sheet" "grounds" "[I") (List.mem_of_getElem? (i := 1) rfl)
  refine lv_aload_n hx hb dX7_groundOf_0 rfl (lv_at hl 0 rfl) ?_
  refine w_get (C := RX7) (T := TX7) (N := 7) (ci := 7) hx hb hts in_7 hown hc hw 0 4 rfl rfl (by decide) lk_0 rfl dX7_groundOf_1 ?_
  refine lv_iload_n hx hb dX7_groundOf_4 rfl (lv_at hl 1 rfl) ?_
  refine w_iald hx hb hc hw 5 rfl rfl (i := q) (by omega) (by decide) dX7_groundOf_5 ?_
  subst hQ
  exact r_i hx hb hr rfl hlk hw ⟨rfl, rfl⟩ dX7_groundOf_6
def rm_c_X7_untoldOf : Room := { frames := 1, cells := 0, slots := 0, locals := 22 }
set_option maxHeartbeats 4000000 in
set_option maxRecDepth 100000 in
theorem c_X7_untoldOf (l : Launch) (D : va_G) (cI cZ cB cJ : ClassId) (b0 : Nat) (adK adV : Nat → Nat) (a0 a1 a2 a3 a4 a5 : Nat) (mk : Nat → Int32) (hd : Nat → Int32) (td : Nat → Int32) (su : Nat → Int32) (gr : Nat → Int32) (P : Nat) (sz : Int32) (q : Nat) (hq : q < 24) : Mi l yX7_untoldOf wsX7_untoldOf rm_c_X7_untoldOf D (TYs cI cZ cB cJ) b0 adK adV [.ref a0, .int (nI q)] [(a0, .inr (7, [.ref a1, .ref a2, .ref a3, .ref a4, .ref a5, .int (nI P), .int sz])), (a1, .inl (cI, 480, .inl mk)), (a2, .inl (cI, 20, .inl hd)), (a3, .inl (cI, 120, .inl td)), (a4, .inl (cI, 24, .inl su)), (a5, .inl (cI, 24, .inl gr))] (fun (r : Int32) (w : va_W) => r = nI (un_n td q 5) ∧ w = [(a0, .inr (7, [.ref a1, .ref a2, .ref a3, .ref a4, .ref a5, .int (nI P), .int sz])), (a1, .inl (cI, 480, .inl mk)), (a2, .inl (cI, 20, .inl hd)), (a3, .inl (cI, 120, .inl td)), (a4, .inl (cI, 24, .inl su)), (a5, .inl (cI, 24, .inl gr))]) 0 0 := by
  refine e_M (Qf := fun A => va_Qi (fun (r : Int32) (w : va_W) => r = nI (un_n td q 5) ∧ w = [(a0, .inr (7, [.ref a1, .ref a2, .ref a3, .ref a4, .ref a5, .int (nI P), .int sz])), (a1, .inl (cI, 480, .inl mk)), (a2, .inl (cI, 20, .inl hd)), (a3, .inl (cI, 120, .inl td)), (a4, .inl (cI, 24, .inl su)), (a5, .inl (cI, 24, .inl gr))]) (Bw D A) A) (cc := cX7_untoldOf) (maxL := 4) (ret := (some .int)) (by decide) rfl (Nat.le_of_ble_eq_true rfl) ?_
  intro p e s m args below meth c ls A Q H locs hx hb hr hml hts hown hlk hnm hc hw hl hQ
  have hl : lv_has ls 4 [(0, .ref a0), (1, .int (nI q))] := hl
  have lk_0 := hts (.constant RX7 40 (-100000)) (List.mem_of_getElem? (i := 1) rfl)
  refine lv_iconst (v := nI 0) hx hb dX7_untoldOf_0 (by decide) ?_
  refine lv_istore_n (lv' := [(2, .int (nI 0)), (0, .ref a0), (1, .int (nI q))]) hx hb dX7_untoldOf_1 rfl hl (by decide) rfl (fun ls hl => ?_)
  refine lv_iconst (v := nI 0) hx hb dX7_untoldOf_2 (by decide) ?_
  refine lv_istore_n (lv' := [(3, .int (nI 0)), (2, .int (nI 0)), (0, .ref a0), (1, .int (nI q))]) hx hb dX7_untoldOf_3 rfl hl (by decide) rfl (fun ls hl => ?_)
  have key4 : ∀ (fuel : Nat) (k : Nat) (d : Nat), k ≤ 5 → d = un_n td q k → 5 - k < fuel → ∀ (H : Heap) (locs : List Loc) (ls : Array Slot), Wd D A s H locs [(a0, .inr (7, [.ref a1, .ref a2, .ref a3, .ref a4, .ref a5, .int (nI P), .int sz])), (a1, .inl (cI, 480, .inl mk)), (a2, .inl (cI, 20, .inl hd)), (a3, .inl (cI, 120, .inl td)), (a4, .inl (cI, 24, .inl su)), (a5, .inl (cI, 24, .inl gr))] → lv_has ls 4 [(0, .ref a0), (1, .int (nI q)), (2, .int (nI d)), (3, .int (nI k))] → W p l e rm_c_X7_untoldOf s m args below meth c H locs 0 0 Q (F0 m 4 ls []) := by
    intro fuel
    induction fuel with
    | zero => intro k d hk e1 hfu; exact absurd hfu (Nat.not_lt_zero _)
    | succ fuel ih =>
      intro k d hk e1 hfu H locs ls hw hl
      have ih4 := ih
      refine lv_iload_n hx hb dX7_untoldOf_4 rfl (lv_at hl 3 rfl) ?_
      refine lv_iconst (v := nI 5) hx hb dX7_untoldOf_5 (by decide) ?_
      refine wb_icmp_ge (tgt := 29) hx hb (by omega) (by omega) dX7_untoldOf_6 (by decide) (fun c_1 => ?_) (fun c_1 => ?_)
      · skip
        refine lv_iload_n hx hb dX7_untoldOf_29 rfl (lv_at hl 2 rfl) ?_
        subst hQ
        exact r_i hx hb hr rfl hlk hw ⟨(by rw [e1, show k = 5 by omega]), rfl⟩ dX7_untoldOf_30
      · skip
        refine lv_aload_n hx hb dX7_untoldOf_9 rfl (lv_at hl 0 rfl) ?_
        refine lv_iload_n hx hb dX7_untoldOf_10 rfl (lv_at hl 1 rfl) ?_
        refine lv_iload_n hx hb dX7_untoldOf_11 rfl (lv_at hl 3 rfl) ?_
        refine k_i (wr := []) (j_V ⟨hx, hb, hml, hown, hts⟩ (c_X7_toldOf l D cI cZ cB cJ b0 adK adV a0 a1 a2 a3 a4 a5 mk hd td su gr P sz q k (by omega) (by omega) H.size) (cwV 2 hts gX7_untoldOf_X7_toldOf rfl rfl rfl (by decide +kernel) ⟨by decide, by decide⟩) hc hw [0, 1, 2, 3, 4, 5] rfl rfl 7 0 rfl rfl rfl rfl hl.1 rfl (Nat.le_of_ble_eq_true rfl) dX7_untoldOf_12 ⟨by decide, by decide⟩) hc hw [0, 1, 2, 3, 4, 5] [] rfl rfl (by decide) (by decide) (fun r w H locs hq hw => ?_)
        obtain ⟨rfl, rfl⟩ := hq
        have hw : Wd D A s H locs [(a0, .inr (7, [.ref a1, .ref a2, .ref a3, .ref a4, .ref a5, .int (nI P), .int sz])), (a1, .inl (cI, 480, .inl mk)), (a2, .inl (cI, 20, .inl hd)), (a3, .inl (cI, 120, .inl td)), (a4, .inl (cI, 24, .inl su)), (a5, .inl (cI, 24, .inl gr))] := hw
        refine lv_ldc (v := (-100000)) hx hb hown lk_0 dX7_untoldOf_15 ?_
        refine lv_icmp_ne (tgt := 23) hx hb dX7_untoldOf_17 (by decide) (fun c_2 => ?_) (fun c_2 => ?_)
        · skip
          refine wn_iinc (a := k) (d := 1) (lv' := [(3, .int (nI (k + 1))), (0, .ref a0), (1, .int (nI q)), (2, .int (nI d))]) hx hb dX7_untoldOf_23 hl (k := 3) rfl (by decide) rfl (fun ls hl => ?_)
          refine lv_goto (tgt := 4) hx hb dX7_untoldOf_26 (by decide) ?_
          exact ih4 (k + 1) d (by omega) (by simp [un_n, e1, c_1, c_2]) (by omega) _ _ _ hw (lv_sub hl [1, 2, 3, 0] rfl)
        · skip
          refine wn_iinc (a := d) (d := 1) (lv' := [(2, .int (nI (d + 1))), (0, .ref a0), (1, .int (nI q)), (3, .int (nI k))]) hx hb dX7_untoldOf_20 hl (k := 2) rfl (by decide) rfl (fun ls hl => ?_)
          refine wn_iinc (a := k) (d := 1) (lv' := [(3, .int (nI (k + 1))), (2, .int (nI (d + 1))), (0, .ref a0), (1, .int (nI q))]) hx hb dX7_untoldOf_23 hl (k := 3) rfl (by decide) rfl (fun ls hl => ?_)
          refine lv_goto (tgt := 4) hx hb dX7_untoldOf_26 (by decide) ?_
          exact ih4 (k + 1) (d + 1) (by omega) (by simp [un_n, e1, c_1, c_2]) (by omega) _ _ _ hw (lv_sub hl [2, 3, 1, 0] rfl)
  exact key4 (5 - 0 + 1) 0 0 (by omega) rfl (Nat.lt_succ_self _) _ _ _ hw (lv_sub hl [2, 3, 1, 0] rfl)
def rm_c_X7_placeOf : Room := { frames := 0, cells := 0, slots := 0, locals := 0 }
set_option maxHeartbeats 4000000 in
set_option maxRecDepth 100000 in
theorem c_X7_placeOf (l : Launch) (D : va_G) (cI cZ cB cJ : ClassId) (b0 : Nat) (adK adV : Nat → Nat) (j : Nat) (q : Nat) (t : Nat) : Mi l yX7_placeOf wsX7_placeOf rm_c_X7_placeOf D (TYs cI cZ cB cJ) b0 adK adV [.int (nI j), .int (nI q), .int (nI t)] [] (fun (r : Int32) (w : va_W) => r = nI (ix j q t) ∧ w = []) 0 0 := by
  refine e_M (Qf := fun A => va_Qi (fun (r : Int32) (w : va_W) => r = nI (ix j q t) ∧ w = []) (Bw D A) A) (cc := cX7_placeOf) (maxL := 3) (ret := (some .int)) (by decide) rfl (Nat.le_of_ble_eq_true rfl) ?_
  intro p e s m args below meth c ls A Q H locs hx hb hr hml hts hown hlk hnm hc hw hl hQ
  have hl : lv_has ls 3 [(0, .int (nI j)), (1, .int (nI q)), (2, .int (nI t))] := hl
  refine lv_iload_n hx hb dX7_placeOf_0 rfl (lv_at hl 0 rfl) ?_
  refine lv_bipush (v := nI 24) hx hb dX7_placeOf_1 (by decide) ?_
  refine wn_imul hx hb dX7_placeOf_3 ?_
  refine lv_iload_n hx hb dX7_placeOf_4 rfl (lv_at hl 1 rfl) ?_
  refine wn_iadd hx hb dX7_placeOf_5 ?_
  refine lv_iconst (v := nI 5) hx hb dX7_placeOf_6 (by decide) ?_
  refine wn_imul hx hb dX7_placeOf_7 ?_
  refine lv_iload_n hx hb dX7_placeOf_8 rfl (lv_at hl 2 rfl) ?_
  refine wn_iadd hx hb dX7_placeOf_9 ?_
  subst hQ
  exact r_i hx hb hr rfl hlk hw ⟨rfl, rfl⟩ dX7_placeOf_10
def rm_c_X7_workOutHard : Room := { frames := 1, cells := 0, slots := 0, locals := 22 }
set_option maxHeartbeats 4000000 in
set_option maxRecDepth 100000 in
theorem c_X7_workOutHard (l : Launch) (D : va_G) (cI cZ cB cJ : ClassId) (b0 : Nat) (adK adV : Nat → Nat) (a0 a1 a2 a3 a4 a5 : Nat) (mk : Nat → Int32) (hd : Nat → Int32) (td : Nat → Int32) (su : Nat → Int32) (gr : Nat → Int32) (P : Nat) (sz : Int32) (j : Nat) (t : Nat) (hP : P ≤ 24) (hj : j < 4) (ht : t < 5) : Mi l yX7_workOutHard wsX7_workOutHard rm_c_X7_workOutHard D (TYs cI cZ cB cJ) b0 adK adV [.ref a0, .int (nI j), .int (nI t)] [(a0, .inr (7, [.ref a1, .ref a2, .ref a3, .ref a4, .ref a5, .int (nI P), .int sz])), (a1, .inl (cI, 480, .inl mk)), (a2, .inl (cI, 20, .inl hd)), (a3, .inl (cI, 120, .inl td)), (a4, .inl (cI, 24, .inl su)), (a5, .inl (cI, 24, .inl gr))] (fun (r : Int32) (w : va_W) => r = hardF mk P j t ∧ w = [(a0, .inr (7, [.ref a1, .ref a2, .ref a3, .ref a4, .ref a5, .int (nI P), .int sz])), (a1, .inl (cI, 480, .inl mk)), (a2, .inl (cI, 20, .inl hd)), (a3, .inl (cI, 120, .inl td)), (a4, .inl (cI, 24, .inl su)), (a5, .inl (cI, 24, .inl gr))]) 0 0 := by
  refine e_M (Qf := fun A => va_Qi (fun (r : Int32) (w : va_W) => r = hardF mk P j t ∧ w = [(a0, .inr (7, [.ref a1, .ref a2, .ref a3, .ref a4, .ref a5, .int (nI P), .int sz])), (a1, .inl (cI, 480, .inl mk)), (a2, .inl (cI, 20, .inl hd)), (a3, .inl (cI, 120, .inl td)), (a4, .inl (cI, 24, .inl su)), (a5, .inl (cI, 24, .inl gr))]) (Bw D A) A) (cc := cX7_workOutHard) (maxL := 9) (ret := (some .int)) (by decide) rfl (Nat.le_of_ble_eq_true rfl) ?_
  intro p e s m args below meth c ls A Q H locs hx hb hr hml hts hown hlk hnm hc hw hl hQ
  have hl : lv_has ls 9 [(0, .ref a0), (1, .int (nI j)), (2, .int (nI t))] := hl
  have in_7 : ∀ w ∈ u_ws RX7 TX7 7, w ∈ wsX7_workOutHard := fun _ h => List.mem_cons_of_mem _ (List.mem_append_right _ h)
  have lk_0 := hts (.fieldLink RX7 27 "PloughingMatch$Sheet" "plots" "I") (List.mem_of_getElem? (i := 1) rfl)
  have lk_1 := hts (.fieldLink RX7 9 "PloughingMatch$Sheet" "marks" "[I") (List.mem_of_getElem? (i := 2) rfl)
  refine lv_iconst (v := nI 0) hx hb dX7_workOutHard_0 (by decide) ?_
  refine lv_istore_n (lv' := [(3, .int (nI 0)), (0, .ref a0), (1, .int (nI j)), (2, .int (nI t))]) hx hb dX7_workOutHard_1 rfl hl (by decide) rfl (fun ls hl => ?_)
  refine lv_iconst (v := nI 0) hx hb dX7_workOutHard_2 (by decide) ?_
  refine lv_istore (lv' := [(4, .int (nI 0)), (3, .int (nI 0)), (0, .ref a0), (1, .int (nI j)), (2, .int (nI t))]) hx hb dX7_workOutHard_3 hl (by decide) rfl (fun ls hl => ?_)
  refine lv_iconst (v := nI 0) hx hb dX7_workOutHard_5 (by decide) ?_
  refine lv_istore (lv' := [(5, .int (nI 0)), (4, .int (nI 0)), (3, .int (nI 0)), (0, .ref a0), (1, .int (nI j)), (2, .int (nI t))]) hx hb dX7_workOutHard_6 hl (by decide) rfl (fun ls hl => ?_)
  have key8 : ∀ (fuel : Nat) (q : Nat) (x3 : Int32) (n4 : Nat), q ≤ P → x3 = hd_s mk j t q → n4 = hd_n mk j t q → P - q < fuel → ∀ (H : Heap) (locs : List Loc) (ls : Array Slot), Wd D A s H locs [(a0, .inr (7, [.ref a1, .ref a2, .ref a3, .ref a4, .ref a5, .int (nI P), .int sz])), (a1, .inl (cI, 480, .inl mk)), (a2, .inl (cI, 20, .inl hd)), (a3, .inl (cI, 120, .inl td)), (a4, .inl (cI, 24, .inl su)), (a5, .inl (cI, 24, .inl gr))] → lv_has ls 9 [(0, .ref a0), (1, .int (nI j)), (2, .int (nI t)), (3, .int x3), (4, .int (nI n4)), (5, .int (nI q))] → W p l e rm_c_X7_workOutHard s m args below meth c H locs 0 0 Q (F0 m 8 ls []) := by
    intro fuel
    induction fuel with
    | zero => intro q x3 n4 hq e3 e4 hfu; exact absurd hfu (Nat.not_lt_zero _)
    | succ fuel ih =>
      intro q x3 n4 hq e3 e4 hfu H locs ls hw hl
      have ih8 := ih
      refine lv_iload hx hb dX7_workOutHard_8 (lv_at hl 5 rfl) ?_
      refine lv_aload_n hx hb dX7_workOutHard_10 rfl (lv_at hl 0 rfl) ?_
      refine w_get (C := RX7) (T := TX7) (N := 7) (ci := 7) hx hb hts in_7 hown hc hw 0 5 rfl rfl (by decide) lk_0 rfl dX7_workOutHard_11 ?_
      refine wb_icmp_ge (tgt := 99) hx hb (by omega) (by omega) dX7_workOutHard_14 (by decide) (fun c_1 => ?_) (fun c_1 => ?_)
      · skip
        refine lv_iload hx hb dX7_workOutHard_99 (lv_at hl 4 rfl) ?_
        refine wb_if_ne (tgt := 108) hx hb (by have := hd_n_le mk j t q; omega) dX7_workOutHard_101 (by decide) (fun c_2 => ?_) (fun c_2 => ?_)
        · skip
          refine lv_bipush (v := nI 100) hx hb dX7_workOutHard_108 (by decide) ?_
          refine lv_iload_n hx hb dX7_workOutHard_110 rfl (lv_at hl 3 rfl) ?_
          refine lv_imul hx hb dX7_workOutHard_111 ?_
          refine lv_iload hx hb dX7_workOutHard_112 (lv_at hl 4 rfl) ?_
          refine k_i (wr := [(a0, .inr (7, [.ref a1, .ref a2, .ref a3, .ref a4, .ref a5, .int (nI P), .int sz])), (a1, .inl (cI, 480, .inl mk)), (a2, .inl (cI, 20, .inl hd)), (a3, .inl (cI, 120, .inl td)), (a4, .inl (cI, 24, .inl su)), (a5, .inl (cI, 24, .inl gr))]) (j_S ⟨hx, hb, hml, hown, hts⟩ (c_J9_floorDiv_7cf53 l D cI cZ cB cJ b0 adK adV ((nI 100) * x3) n4 (by omega) (by have := hd_n_le mk j t q; omega) H.size) (va_cwS 2 hts gX7_workOutHard_J9_floorDiv_7cf53 rfl rfl rfl (by decide +kernel) ⟨by decide, by decide⟩) hc hw [] rfl rfl rfl hl.1 rfl (Nat.le_of_ble_eq_true rfl) dX7_workOutHard_114 ⟨by decide, by decide⟩) hc hw [] [0, 1, 2, 3, 4, 5] rfl rfl (by decide) (by decide) (fun r w H locs hq hw => ?_)
          obtain ⟨rfl, rfl⟩ := hq
          have hw : Wd D A s H locs [(a0, .inr (7, [.ref a1, .ref a2, .ref a3, .ref a4, .ref a5, .int (nI P), .int sz])), (a1, .inl (cI, 480, .inl mk)), (a2, .inl (cI, 20, .inl hd)), (a3, .inl (cI, 120, .inl td)), (a4, .inl (cI, 24, .inl su)), (a5, .inl (cI, 24, .inl gr))] := hw
          subst hQ
          exact r_i hx hb hr rfl hlk hw ⟨(by have hq9 : q = P := (by omega); subst hq9; simp [hardF, ← e3, ← e4, c_2]; try omega), rfl⟩ dX7_workOutHard_117
        · skip
          refine lv_iconst (v := nI 0) hx hb dX7_workOutHard_104 (by decide) ?_
          refine lv_goto (tgt := 117) hx hb dX7_workOutHard_105 (by decide) ?_
          subst hQ
          exact r_i hx hb hr rfl hlk hw ⟨(by have hq9 : q = P := (by omega); subst hq9; simp [hardF, ← e3, ← e4, c_2]; try omega), rfl⟩ dX7_workOutHard_117
      · skip
        refine lv_aload_n hx hb dX7_workOutHard_17 rfl (lv_at hl 0 rfl) ?_
        refine w_get (C := RX7) (T := TX7) (N := 7) (ci := 7) hx hb hts in_7 hown hc hw 0 0 rfl rfl (by decide) lk_1 rfl dX7_workOutHard_18 ?_
        refine lv_iload_n hx hb dX7_workOutHard_21 rfl (lv_at hl 1 rfl) ?_
        refine lv_iload hx hb dX7_workOutHard_22 (lv_at hl 5 rfl) ?_
        refine lv_iload_n hx hb dX7_workOutHard_24 rfl (lv_at hl 2 rfl) ?_
        refine k_i (wr := [(a0, .inr (7, [.ref a1, .ref a2, .ref a3, .ref a4, .ref a5, .int (nI P), .int sz])), (a1, .inl (cI, 480, .inl mk)), (a2, .inl (cI, 20, .inl hd)), (a3, .inl (cI, 120, .inl td)), (a4, .inl (cI, 24, .inl su)), (a5, .inl (cI, 24, .inl gr))]) (j_S ⟨hx, hb, hml, hown, hts⟩ (c_X7_placeOf l D cI cZ cB cJ b0 adK adV j q t H.size) (va_cwS 3 hts gX7_workOutHard_X7_placeOf rfl rfl rfl (by decide +kernel) ⟨by decide, by decide⟩) hc hw [] rfl rfl rfl hl.1 rfl (Nat.le_of_ble_eq_true rfl) dX7_workOutHard_25 ⟨by decide, by decide⟩) hc hw [] [0, 1, 2, 3, 4, 5] rfl rfl (by decide) (by decide) (fun r w H locs hq hw => ?_)
        obtain ⟨rfl, rfl⟩ := hq
        have hw : Wd D A s H locs [(a0, .inr (7, [.ref a1, .ref a2, .ref a3, .ref a4, .ref a5, .int (nI P), .int sz])), (a1, .inl (cI, 480, .inl mk)), (a2, .inl (cI, 20, .inl hd)), (a3, .inl (cI, 120, .inl td)), (a4, .inl (cI, 24, .inl su)), (a5, .inl (cI, 24, .inl gr))] := hw
        refine w_iald hx hb hc hw 1 rfl rfl (i := ix j q t) (ix_lt (by omega) (by omega) (by omega)) (by decide) dX7_workOutHard_28 ?_
        refine lv_istore (lv' := [(6, .int (mk (ix j q t))), (0, .ref a0), (1, .int (nI j)), (2, .int (nI t)), (3, .int x3), (4, .int (nI n4)), (5, .int (nI q))]) hx hb dX7_workOutHard_29 hl (by decide) rfl (fun ls hl => ?_)
        refine lv_iload hx hb dX7_workOutHard_31 (lv_at hl 0 rfl) ?_
        refine lv_iconst (v := (-1)) hx hb dX7_workOutHard_33 (by decide) ?_
        refine lv_icmp_ne (tgt := 40) hx hb dX7_workOutHard_34 (by decide) (fun c_3 => ?_) (fun c_3 => ?_)
        · skip
          refine lv_iconst (v := nI 0) hx hb dX7_workOutHard_40 (by decide) ?_
          refine lv_istore (lv' := [(7, .int (nI 0)), (6, .int (mk (ix j q t))), (0, .ref a0), (1, .int (nI j)), (2, .int (nI t)), (3, .int x3), (4, .int (nI n4)), (5, .int (nI q))]) hx hb dX7_workOutHard_41 hl (by decide) rfl (fun ls hl => ?_)
          have key43 : ∀ (fuel : Nat) (k : Nat) (y3 : Int32) (m4 : Nat), k ≤ 4 → y3 = hd_s mk j t q + hd_s1 mk j t q k → m4 = hd_n mk j t q + hd_n1 mk j t q k → 4 - k < fuel → ∀ (H : Heap) (locs : List Loc) (ls : Array Slot), Wd D A s H locs [(a0, .inr (7, [.ref a1, .ref a2, .ref a3, .ref a4, .ref a5, .int (nI P), .int sz])), (a1, .inl (cI, 480, .inl mk)), (a2, .inl (cI, 20, .inl hd)), (a3, .inl (cI, 120, .inl td)), (a4, .inl (cI, 24, .inl su)), (a5, .inl (cI, 24, .inl gr))] → lv_has ls 9 [(0, .ref a0), (1, .int (nI j)), (2, .int (nI t)), (3, .int y3), (4, .int (nI m4)), (5, .int (nI q)), (6, .int (mk (ix j q t))), (7, .int (nI k))] → W p l e rm_c_X7_workOutHard s m args below meth c H locs 0 0 Q (F0 m 43 ls []) := by
            intro fuel
            induction fuel with
            | zero => intro k y3 m4 hk e7 e8 hfu; exact absurd hfu (Nat.not_lt_zero _)
            | succ fuel ih =>
              intro k y3 m4 hk e7 e8 hfu H locs ls hw hl
              have ih43 := ih
              refine lv_iload hx hb dX7_workOutHard_43 (lv_at hl 7 rfl) ?_
              refine lv_iconst (v := nI 4) hx hb dX7_workOutHard_45 (by decide) ?_
              refine wb_icmp_ge (tgt := 93) hx hb (by omega) (by omega) dX7_workOutHard_46 (by decide) (fun c_4 => ?_) (fun c_4 => ?_)
              · skip
                refine wn_iinc (a := q) (d := 1) (lv' := [(5, .int (nI (q + 1))), (0, .ref a0), (1, .int (nI j)), (2, .int (nI t)), (3, .int y3), (4, .int (nI m4)), (6, .int (mk (ix j q t))), (7, .int (nI k))]) hx hb dX7_workOutHard_93 hl (k := 5) rfl (by decide) rfl (fun ls hl => ?_)
                refine lv_goto (tgt := 8) hx hb dX7_workOutHard_96 (by decide) ?_
                exact ih8 (q + 1) y3 m4 (by omega) (by first | (rw [e7, show k = 4 by omega]; rfl) | (simp [hd_s, e3, (hd_none (mk := mk) (j := j) (t := t) (p := q) (by assumption) 4).1])) (by first | (rw [e8, show k = 4 by omega]; rfl) | (simp [hd_n, e4, (hd_none (mk := mk) (j := j) (t := t) (p := q) (by assumption) 4).2])) (by omega) _ _ _ hw (lv_sub hl [1, 2, 3, 4, 5, 0] rfl)
              · skip
                refine lv_aload_n hx hb dX7_workOutHard_49 rfl (lv_at hl 0 rfl) ?_
                refine w_get (C := RX7) (T := TX7) (N := 7) (ci := 7) hx hb hts in_7 hown hc hw 0 0 rfl rfl (by decide) lk_1 rfl dX7_workOutHard_50 ?_
                refine lv_iload hx hb dX7_workOutHard_53 (lv_at hl 7 rfl) ?_
                refine lv_iload hx hb dX7_workOutHard_55 (lv_at hl 5 rfl) ?_
                refine lv_iload_n hx hb dX7_workOutHard_57 rfl (lv_at hl 2 rfl) ?_
                refine k_i (wr := [(a0, .inr (7, [.ref a1, .ref a2, .ref a3, .ref a4, .ref a5, .int (nI P), .int sz])), (a1, .inl (cI, 480, .inl mk)), (a2, .inl (cI, 20, .inl hd)), (a3, .inl (cI, 120, .inl td)), (a4, .inl (cI, 24, .inl su)), (a5, .inl (cI, 24, .inl gr))]) (j_S ⟨hx, hb, hml, hown, hts⟩ (c_X7_placeOf l D cI cZ cB cJ b0 adK adV k q t H.size) (va_cwS 3 hts gX7_workOutHard_X7_placeOf rfl rfl rfl (by decide +kernel) ⟨by decide, by decide⟩) hc hw [] rfl rfl rfl hl.1 rfl (Nat.le_of_ble_eq_true rfl) dX7_workOutHard_58 ⟨by decide, by decide⟩) hc hw [] [0, 1, 2, 3, 4, 5] rfl rfl (by decide) (by decide) (fun r w H locs hq hw => ?_)
                obtain ⟨rfl, rfl⟩ := hq
                have hw : Wd D A s H locs [(a0, .inr (7, [.ref a1, .ref a2, .ref a3, .ref a4, .ref a5, .int (nI P), .int sz])), (a1, .inl (cI, 480, .inl mk)), (a2, .inl (cI, 20, .inl hd)), (a3, .inl (cI, 120, .inl td)), (a4, .inl (cI, 24, .inl su)), (a5, .inl (cI, 24, .inl gr))] := hw
                refine w_iald hx hb hc hw 1 rfl rfl (i := ix k q t) (ix_lt (by omega) (by omega) (by omega)) (by decide) dX7_workOutHard_61 ?_
                refine lv_istore (lv' := [(8, .int (mk (ix k q t))), (0, .ref a0), (1, .int (nI j)), (2, .int (nI t)), (3, .int y3), (4, .int (nI m4)), (5, .int (nI q)), (6, .int (mk (ix j q t))), (7, .int (nI k))]) hx hb dX7_workOutHard_62 hl (by decide) rfl (fun ls hl => ?_)
                refine lv_iload hx hb dX7_workOutHard_64 (lv_at hl 8 rfl) ?_
                refine lv_iload_n hx hb dX7_workOutHard_66 rfl (lv_at hl 2 rfl) ?_
                refine wb_icmp_eq (tgt := 87) hx hb (by omega) (by omega) dX7_workOutHard_67 (by decide) (fun c_5 => ?_) (fun c_5 => ?_)
                · skip
                  refine wn_iinc (a := k) (d := 1) (lv' := [(7, .int (nI (k + 1))), (8, .int (mk (ix k q t))), (0, .ref a0), (1, .int (nI j)), (2, .int (nI t)), (3, .int y3), (4, .int (nI m4)), (5, .int (nI q)), (6, .int (mk (ix j q t)))]) hx hb dX7_workOutHard_87 hl (k := 8) rfl (by decide) rfl (fun ls hl => ?_)
                  refine lv_goto (tgt := 43) hx hb dX7_workOutHard_90 (by decide) ?_
                  exact ih43 (k + 1) y3 m4 (by omega) (by simp [hd_s1, e7, Int32.add_assoc, c_1, c_3, c_4, c_5]) (by simp [hd_n1, e8, Nat.add_assoc, c_1, c_3, c_4, c_5]) (by omega) _ _ _ hw (lv_sub hl [2, 3, 4, 5, 6, 7, 8, 0] rfl)
                · skip
                  refine lv_iload hx hb dX7_workOutHard_70 (lv_at hl 0 rfl) ?_
                  refine lv_iconst (v := (-1)) hx hb dX7_workOutHard_72 (by decide) ?_
                  refine lv_icmp_eq (tgt := 87) hx hb dX7_workOutHard_73 (by decide) (fun c_6 => ?_) (fun c_6 => ?_)
                  · skip
                    refine wn_iinc (a := k) (d := 1) (lv' := [(7, .int (nI (k + 1))), (8, .int (mk (ix k q t))), (0, .ref a0), (1, .int (nI j)), (2, .int (nI t)), (3, .int y3), (4, .int (nI m4)), (5, .int (nI q)), (6, .int (mk (ix j q t)))]) hx hb dX7_workOutHard_87 hl (k := 8) rfl (by decide) rfl (fun ls hl => ?_)
                    refine lv_goto (tgt := 43) hx hb dX7_workOutHard_90 (by decide) ?_
                    exact ih43 (k + 1) y3 m4 (by omega) (by simp [hd_s1, e7, Int32.add_assoc, c_1, c_3, c_4, c_5, c_6]) (by simp [hd_n1, e8, Nat.add_assoc, c_1, c_3, c_4, c_5, c_6]) (by omega) _ _ _ hw (lv_sub hl [2, 3, 4, 5, 6, 7, 8, 0] rfl)
                  · skip
                    refine lv_iload_n hx hb dX7_workOutHard_76 rfl (lv_at hl 4 rfl) ?_
                    refine lv_iload hx hb dX7_workOutHard_77 (lv_at hl 0 rfl) ?_
                    refine lv_iload hx hb dX7_workOutHard_79 (lv_at hl 7 rfl) ?_
                    refine lv_isub hx hb dX7_workOutHard_81 ?_
                    refine lv_iadd hx hb dX7_workOutHard_82 ?_
                    refine lv_istore_n (lv' := [(3, .int (y3 + ((mk (ix k q t)) - (mk (ix j q t))))), (8, .int (mk (ix k q t))), (0, .ref a0), (1, .int (nI j)), (2, .int (nI t)), (4, .int (nI m4)), (5, .int (nI q)), (6, .int (mk (ix j q t))), (7, .int (nI k))]) hx hb dX7_workOutHard_83 rfl hl (by decide) rfl (fun ls hl => ?_)
                    refine wn_iinc (a := m4) (d := 1) (lv' := [(4, .int (nI (m4 + 1))), (3, .int (y3 + ((mk (ix k q t)) - (mk (ix j q t))))), (8, .int (mk (ix k q t))), (0, .ref a0), (1, .int (nI j)), (2, .int (nI t)), (5, .int (nI q)), (6, .int (mk (ix j q t))), (7, .int (nI k))]) hx hb dX7_workOutHard_84 hl (k := 5) rfl (by decide) rfl (fun ls hl => ?_)
                    refine wn_iinc (a := k) (d := 1) (lv' := [(7, .int (nI (k + 1))), (4, .int (nI (m4 + 1))), (3, .int (y3 + ((mk (ix k q t)) - (mk (ix j q t))))), (8, .int (mk (ix k q t))), (0, .ref a0), (1, .int (nI j)), (2, .int (nI t)), (5, .int (nI q)), (6, .int (mk (ix j q t)))]) hx hb dX7_workOutHard_87 hl (k := 8) rfl (by decide) rfl (fun ls hl => ?_)
                    refine lv_goto (tgt := 43) hx hb dX7_workOutHard_90 (by decide) ?_
                    exact ih43 (k + 1) (y3 + ((mk (ix k q t)) - (mk (ix j q t)))) (m4 + 1) (by omega) (by simp [hd_s1, e7, Int32.add_assoc, c_1, c_3, c_4, c_5, c_6]) (by simp [hd_n1, e8, Nat.add_assoc, c_1, c_3, c_4, c_5, c_6]) (by omega) _ _ _ hw (lv_sub hl [4, 5, 6, 2, 1, 7, 8, 0] rfl)
          exact key43 (4 - 0 + 1) 0 x3 n4 (by omega) (by simp [e3, hd_s1]) (by simp [e4, hd_n1]) (Nat.lt_succ_self _) _ _ _ hw (lv_sub hl [2, 3, 4, 5, 6, 7, 1, 0] rfl)
        · skip
          refine lv_goto (tgt := 93) hx hb dX7_workOutHard_37 (by decide) ?_
          refine wn_iinc (a := q) (d := 1) (lv' := [(5, .int (nI (q + 1))), (6, .int (mk (ix j q t))), (0, .ref a0), (1, .int (nI j)), (2, .int (nI t)), (3, .int x3), (4, .int (nI n4))]) hx hb dX7_workOutHard_93 hl (k := 6) rfl (by decide) rfl (fun ls hl => ?_)
          refine lv_goto (tgt := 8) hx hb dX7_workOutHard_96 (by decide) ?_
          exact ih8 (q + 1) x3 n4 (by omega) (by first | (rw [e7, show k = 4 by omega]; rfl) | (simp [hd_s, e3, (hd_none (mk := mk) (j := j) (t := t) (p := q) (by assumption) 4).1])) (by first | (rw [e8, show k = 4 by omega]; rfl) | (simp [hd_n, e4, (hd_none (mk := mk) (j := j) (t := t) (p := q) (by assumption) 4).2])) (by omega) _ _ _ hw (lv_sub hl [2, 3, 4, 5, 6, 0] rfl)
  exact key8 (P - 0 + 1) 0 (nI 0) 0 (by omega) nI_0 rfl (Nat.lt_succ_self _) _ _ _ hw (lv_sub hl [3, 4, 5, 2, 1, 0] rfl)
def rm_c_X7_workOutTold : Room := { frames := 1, cells := 0, slots := 0, locals := 22 }
set_option maxHeartbeats 4000000 in
set_option maxRecDepth 100000 in
theorem c_X7_workOutTold (l : Launch) (D : va_G) (cI cZ cB cJ : ClassId) (b0 : Nat) (adK adV : Nat → Nat) (a0 a1 a2 a3 a4 a5 : Nat) (mk : Nat → Int32) (hd : Nat → Int32) (td : Nat → Int32) (su : Nat → Int32) (gr : Nat → Int32) (P : Nat) (sz : Int32) (q : Nat) (t : Nat) (hq : q < 24) (ht : t < 5) : Mi l yX7_workOutTold wsX7_workOutTold rm_c_X7_workOutTold D (TYs cI cZ cB cJ) b0 adK adV [.ref a0, .int (nI q), .int (nI t)] [(a0, .inr (7, [.ref a1, .ref a2, .ref a3, .ref a4, .ref a5, .int (nI P), .int sz])), (a1, .inl (cI, 480, .inl mk)), (a2, .inl (cI, 20, .inl hd)), (a3, .inl (cI, 120, .inl td)), (a4, .inl (cI, 24, .inl su)), (a5, .inl (cI, 24, .inl gr))] (fun (r : Int32) (w : va_W) => r = toldF mk (fun j => hd (j * 5 + t)) q t ∧ w = [(a0, .inr (7, [.ref a1, .ref a2, .ref a3, .ref a4, .ref a5, .int (nI P), .int sz])), (a1, .inl (cI, 480, .inl mk)), (a2, .inl (cI, 20, .inl hd)), (a3, .inl (cI, 120, .inl td)), (a4, .inl (cI, 24, .inl su)), (a5, .inl (cI, 24, .inl gr))]) 0 0 := by
  refine e_M (Qf := fun A => va_Qi (fun (r : Int32) (w : va_W) => r = toldF mk (fun j => hd (j * 5 + t)) q t ∧ w = [(a0, .inr (7, [.ref a1, .ref a2, .ref a3, .ref a4, .ref a5, .int (nI P), .int sz])), (a1, .inl (cI, 480, .inl mk)), (a2, .inl (cI, 20, .inl hd)), (a3, .inl (cI, 120, .inl td)), (a4, .inl (cI, 24, .inl su)), (a5, .inl (cI, 24, .inl gr))]) (Bw D A) A) (cc := cX7_workOutTold) (maxL := 7) (ret := (some .int)) (by decide) rfl (Nat.le_of_ble_eq_true rfl) ?_
  intro p e s m args below meth c ls A Q H locs hx hb hr hml hts hown hlk hnm hc hw hl hQ
  have hl : lv_has ls 7 [(0, .ref a0), (1, .int (nI q)), (2, .int (nI t))] := hl
  have in_7 : ∀ w ∈ u_ws RX7 TX7 7, w ∈ wsX7_workOutTold := fun _ h => List.mem_cons_of_mem _ (List.mem_append_right _ h)
  have lk_0 := hts (.constant RX7 40 (-100000)) (List.mem_of_getElem? (i := 2) rfl)
  have lk_1 := hts (.fieldLink RX7 9 "PloughingMatch$Sheet" "marks" "[I") (List.mem_of_getElem? (i := 1) rfl)
  refine lv_iconst (v := nI 0) hx hb dX7_workOutTold_0 (by decide) ?_
  refine lv_istore_n (lv' := [(3, .int (nI 0)), (0, .ref a0), (1, .int (nI q)), (2, .int (nI t))]) hx hb dX7_workOutTold_1 rfl hl (by decide) rfl (fun ls hl => ?_)
  refine lv_iconst (v := nI 0) hx hb dX7_workOutTold_2 (by decide) ?_
  refine lv_istore (lv' := [(4, .int (nI 0)), (3, .int (nI 0)), (0, .ref a0), (1, .int (nI q)), (2, .int (nI t))]) hx hb dX7_workOutTold_3 hl (by decide) rfl (fun ls hl => ?_)
  refine lv_iconst (v := nI 0) hx hb dX7_workOutTold_5 (by decide) ?_
  refine lv_istore (lv' := [(5, .int (nI 0)), (4, .int (nI 0)), (3, .int (nI 0)), (0, .ref a0), (1, .int (nI q)), (2, .int (nI t))]) hx hb dX7_workOutTold_6 hl (by decide) rfl (fun ls hl => ?_)
  have key8 : ∀ (fuel : Nat) (j : Nat) (x3 : Int32) (n4 : Nat), j ≤ 4 → x3 = td_s mk (fun j => hd (j * 5 + t)) q t j → n4 = td_n mk q t j → 4 - j < fuel → ∀ (H : Heap) (locs : List Loc) (ls : Array Slot), Wd D A s H locs [(a0, .inr (7, [.ref a1, .ref a2, .ref a3, .ref a4, .ref a5, .int (nI P), .int sz])), (a1, .inl (cI, 480, .inl mk)), (a2, .inl (cI, 20, .inl hd)), (a3, .inl (cI, 120, .inl td)), (a4, .inl (cI, 24, .inl su)), (a5, .inl (cI, 24, .inl gr))] → lv_has ls 7 [(0, .ref a0), (1, .int (nI q)), (2, .int (nI t)), (3, .int x3), (4, .int (nI n4)), (5, .int (nI j))] → W p l e rm_c_X7_workOutTold s m args below meth c H locs 0 0 Q (F0 m 8 ls []) := by
    intro fuel
    induction fuel with
    | zero => intro j x3 n4 hj e3 e4 hfu; exact absurd hfu (Nat.not_lt_zero _)
    | succ fuel ih =>
      intro j x3 n4 hj e3 e4 hfu H locs ls hw hl
      have ih8 := ih
      refine lv_iload hx hb dX7_workOutTold_8 (lv_at hl 5 rfl) ?_
      refine lv_iconst (v := nI 4) hx hb dX7_workOutTold_10 (by decide) ?_
      refine wb_icmp_ge (tgt := 59) hx hb (by omega) (by omega) dX7_workOutTold_11 (by decide) (fun c_1 => ?_) (fun c_1 => ?_)
      · skip
        refine lv_iload hx hb dX7_workOutTold_59 (lv_at hl 4 rfl) ?_
        refine wb_if_ne (tgt := 69) hx hb (by have := td_n_le mk q t j; omega) dX7_workOutTold_61 (by decide) (fun c_2 => ?_) (fun c_2 => ?_)
        · skip
          refine lv_iload_n hx hb dX7_workOutTold_69 rfl (lv_at hl 3 rfl) ?_
          refine lv_iload hx hb dX7_workOutTold_70 (lv_at hl 4 rfl) ?_
          refine k_i (wr := [(a0, .inr (7, [.ref a1, .ref a2, .ref a3, .ref a4, .ref a5, .int (nI P), .int sz])), (a1, .inl (cI, 480, .inl mk)), (a2, .inl (cI, 20, .inl hd)), (a3, .inl (cI, 120, .inl td)), (a4, .inl (cI, 24, .inl su)), (a5, .inl (cI, 24, .inl gr))]) (j_S ⟨hx, hb, hml, hown, hts⟩ (c_J9_floorDiv_7cf53 l D cI cZ cB cJ b0 adK adV x3 n4 (by omega) (by have := td_n_le mk q t j; omega) H.size) (va_cwS 2 hts gX7_workOutTold_J9_floorDiv_7cf53 rfl rfl rfl (by decide +kernel) ⟨by decide, by decide⟩) hc hw [] rfl rfl rfl hl.1 rfl (Nat.le_of_ble_eq_true rfl) dX7_workOutTold_72 ⟨by decide, by decide⟩) hc hw [] [0, 1, 2, 3, 4, 5] rfl rfl (by decide) (by decide) (fun r w H locs hq hw => ?_)
          obtain ⟨rfl, rfl⟩ := hq
          have hw : Wd D A s H locs [(a0, .inr (7, [.ref a1, .ref a2, .ref a3, .ref a4, .ref a5, .int (nI P), .int sz])), (a1, .inl (cI, 480, .inl mk)), (a2, .inl (cI, 20, .inl hd)), (a3, .inl (cI, 120, .inl td)), (a4, .inl (cI, 24, .inl su)), (a5, .inl (cI, 24, .inl gr))] := hw
          subst hQ
          exact r_i hx hb hr rfl hlk hw ⟨(by have hj9 : j = 4 := (by omega); subst hj9; simp [toldF, ← e3, ← e4, c_2]; try omega), rfl⟩ dX7_workOutTold_75
        · skip
          refine lv_ldc (v := (-100000)) hx hb hown lk_0 dX7_workOutTold_64 ?_
          refine lv_goto (tgt := 75) hx hb dX7_workOutTold_66 (by decide) ?_
          subst hQ
          exact r_i hx hb hr rfl hlk hw ⟨(by have hj9 : j = 4 := (by omega); subst hj9; simp [toldF, ← e3, ← e4, c_2]; try omega), rfl⟩ dX7_workOutTold_75
      · skip
        refine lv_aload_n hx hb dX7_workOutTold_14 rfl (lv_at hl 0 rfl) ?_
        refine w_get (C := RX7) (T := TX7) (N := 7) (ci := 7) hx hb hts in_7 hown hc hw 0 0 rfl rfl (by decide) lk_1 rfl dX7_workOutTold_15 ?_
        refine lv_iload hx hb dX7_workOutTold_18 (lv_at hl 5 rfl) ?_
        refine lv_iload_n hx hb dX7_workOutTold_20 rfl (lv_at hl 1 rfl) ?_
        refine lv_iload_n hx hb dX7_workOutTold_21 rfl (lv_at hl 2 rfl) ?_
        refine k_i (wr := [(a0, .inr (7, [.ref a1, .ref a2, .ref a3, .ref a4, .ref a5, .int (nI P), .int sz])), (a1, .inl (cI, 480, .inl mk)), (a2, .inl (cI, 20, .inl hd)), (a3, .inl (cI, 120, .inl td)), (a4, .inl (cI, 24, .inl su)), (a5, .inl (cI, 24, .inl gr))]) (j_S ⟨hx, hb, hml, hown, hts⟩ (c_X7_placeOf l D cI cZ cB cJ b0 adK adV j q t H.size) (va_cwS 3 hts gX7_workOutTold_X7_placeOf rfl rfl rfl (by decide +kernel) ⟨by decide, by decide⟩) hc hw [] rfl rfl rfl hl.1 rfl (Nat.le_of_ble_eq_true rfl) dX7_workOutTold_22 ⟨by decide, by decide⟩) hc hw [] [0, 1, 2, 3, 4, 5] rfl rfl (by decide) (by decide) (fun r w H locs hq hw => ?_)
        obtain ⟨rfl, rfl⟩ := hq
        have hw : Wd D A s H locs [(a0, .inr (7, [.ref a1, .ref a2, .ref a3, .ref a4, .ref a5, .int (nI P), .int sz])), (a1, .inl (cI, 480, .inl mk)), (a2, .inl (cI, 20, .inl hd)), (a3, .inl (cI, 120, .inl td)), (a4, .inl (cI, 24, .inl su)), (a5, .inl (cI, 24, .inl gr))] := hw
        refine w_iald hx hb hc hw 1 rfl rfl (i := ix j q t) (ix_lt (by omega) (by omega) (by omega)) (by decide) dX7_workOutTold_25 ?_
        refine lv_istore (lv' := [(6, .int (mk (ix j q t))), (0, .ref a0), (1, .int (nI q)), (2, .int (nI t)), (3, .int x3), (4, .int (nI n4)), (5, .int (nI j))]) hx hb dX7_workOutTold_26 hl (by decide) rfl (fun ls hl => ?_)
        refine lv_iload hx hb dX7_workOutTold_28 (lv_at hl 0 rfl) ?_
        refine lv_iconst (v := (-1)) hx hb dX7_workOutTold_30 (by decide) ?_
        refine lv_icmp_eq (tgt := 53) hx hb dX7_workOutTold_31 (by decide) (fun c_3 => ?_) (fun c_3 => ?_)
        · skip
          refine wn_iinc (a := j) (d := 1) (lv' := [(5, .int (nI (j + 1))), (6, .int (mk (ix j q t))), (0, .ref a0), (1, .int (nI q)), (2, .int (nI t)), (3, .int x3), (4, .int (nI n4))]) hx hb dX7_workOutTold_53 hl (k := 6) rfl (by decide) rfl (fun ls hl => ?_)
          refine lv_goto (tgt := 8) hx hb dX7_workOutTold_56 (by decide) ?_
          exact ih8 (j + 1) x3 n4 (by omega) (by simp [td_s, e3, c_1, c_3]) (by simp [td_n, e4, c_1, c_3]) (by omega) _ _ _ hw (lv_sub hl [2, 3, 4, 5, 6, 0] rfl)
        · skip
          refine lv_iload_n hx hb dX7_workOutTold_34 rfl (lv_at hl 4 rfl) ?_
          refine lv_bipush (v := nI 100) hx hb dX7_workOutTold_35 (by decide) ?_
          refine lv_iload hx hb dX7_workOutTold_37 (lv_at hl 0 rfl) ?_
          refine lv_imul hx hb dX7_workOutTold_39 ?_
          refine lv_aload_n hx hb dX7_workOutTold_40 rfl (lv_at hl 1 rfl) ?_
          refine lv_iload hx hb dX7_workOutTold_41 (lv_at hl 6 rfl) ?_
          refine lv_iload_n hx hb dX7_workOutTold_43 rfl (lv_at hl 3 rfl) ?_
          refine k_i (wr := []) (j_V ⟨hx, hb, hml, hown, hts⟩ (c_X7_hardOf l D cI cZ cB cJ b0 adK adV a0 a1 a2 a3 a4 a5 mk hd td su gr P sz j t (by omega) (by omega) H.size) (cwV 2 hts gX7_workOutTold_X7_hardOf rfl rfl rfl (by decide +kernel) ⟨by decide, by decide⟩) hc hw [0, 1, 2, 3, 4, 5] rfl rfl 7 0 rfl rfl rfl rfl hl.1 rfl (Nat.le_of_ble_eq_true rfl) dX7_workOutTold_44 ⟨by decide, by decide⟩) hc hw [0, 1, 2, 3, 4, 5] [] rfl rfl (by decide) (by decide) (fun r w H locs hq hw => ?_)
          obtain ⟨rfl, rfl⟩ := hq
          have hw : Wd D A s H locs [(a0, .inr (7, [.ref a1, .ref a2, .ref a3, .ref a4, .ref a5, .int (nI P), .int sz])), (a1, .inl (cI, 480, .inl mk)), (a2, .inl (cI, 20, .inl hd)), (a3, .inl (cI, 120, .inl td)), (a4, .inl (cI, 24, .inl su)), (a5, .inl (cI, 24, .inl gr))] := hw
          refine lv_iadd hx hb dX7_workOutTold_47 ?_
          refine lv_iadd hx hb dX7_workOutTold_48 ?_
          refine lv_istore_n (lv' := [(3, .int (x3 + (((nI 100) * (mk (ix j q t))) + (hd (j * 5 + t))))), (6, .int (mk (ix j q t))), (0, .ref a0), (1, .int (nI q)), (2, .int (nI t)), (4, .int (nI n4)), (5, .int (nI j))]) hx hb dX7_workOutTold_49 rfl hl (by decide) rfl (fun ls hl => ?_)
          refine wn_iinc (a := n4) (d := 1) (lv' := [(4, .int (nI (n4 + 1))), (3, .int (x3 + (((nI 100) * (mk (ix j q t))) + (hd (j * 5 + t))))), (6, .int (mk (ix j q t))), (0, .ref a0), (1, .int (nI q)), (2, .int (nI t)), (5, .int (nI j))]) hx hb dX7_workOutTold_50 hl (k := 5) rfl (by decide) rfl (fun ls hl => ?_)
          refine wn_iinc (a := j) (d := 1) (lv' := [(5, .int (nI (j + 1))), (4, .int (nI (n4 + 1))), (3, .int (x3 + (((nI 100) * (mk (ix j q t))) + (hd (j * 5 + t))))), (6, .int (mk (ix j q t))), (0, .ref a0), (1, .int (nI q)), (2, .int (nI t))]) hx hb dX7_workOutTold_53 hl (k := 6) rfl (by decide) rfl (fun ls hl => ?_)
          refine lv_goto (tgt := 8) hx hb dX7_workOutTold_56 (by decide) ?_
          exact ih8 (j + 1) (x3 + (((nI 100) * (mk (ix j q t))) + (hd (j * 5 + t)))) (n4 + 1) (by omega) (by simp [td_s, e3, c_1, c_3]) (by simp [td_n, e4, c_1, c_3]) (by omega) _ _ _ hw (lv_sub hl [4, 5, 6, 2, 1, 0] rfl)
  exact key8 (4 - 0 + 1) 0 (nI 0) 0 (by omega) nI_0 rfl (Nat.lt_succ_self _) _ _ _ hw (lv_sub hl [3, 4, 5, 2, 1, 0] rfl)
def rm_c_X7_workOutPart : Room := { frames := 2, cells := 0, slots := 0, locals := 50 }
set_option maxHeartbeats 4000000 in
set_option maxRecDepth 100000 in
theorem c_X7_workOutPart (l : Launch) (D : va_G) (cI cZ cB cJ : ClassId) (b0 : Nat) (adK adV : Nat → Nat) (a0 a1 a2 a3 a4 a5 : Nat) (mk : Nat → Int32) (hd : Nat → Int32) (td : Nat → Int32) (su : Nat → Int32) (gr : Nat → Int32) (P : Nat) (sz : Int32) (t : Nat) (hP : P ≤ 24) (ht : t < 5) : Mv l yX7_workOutPart wsX7_workOutPart rm_c_X7_workOutPart D (TYs cI cZ cB cJ) b0 adK adV [.ref a0, .int (nI t)] [(a0, .inr (7, [.ref a1, .ref a2, .ref a3, .ref a4, .ref a5, .int (nI P), .int sz])), (a1, .inl (cI, 480, .inl mk)), (a2, .inl (cI, 20, .inl hd)), (a3, .inl (cI, 120, .inl td)), (a4, .inl (cI, 24, .inl su)), (a5, .inl (cI, 24, .inl gr))] (fun w : va_W => w = [(a0, .inr (7, [.ref a1, .ref a2, .ref a3, .ref a4, .ref a5, .int (nI P), .int sz])), (a1, .inl (cI, 480, .inl mk)), (a2, .inl (cI, 20, .inl (wp_h mk P t hd 4))), (a3, .inl (cI, 120, .inl (wp_t mk (wp_h mk P t hd 4) t td P))), (a4, .inl (cI, 24, .inl su)), (a5, .inl (cI, 24, .inl gr))]) 0 0 := by
  refine e_M (Qf := fun A => va_Qv (fun w : va_W => w = [(a0, .inr (7, [.ref a1, .ref a2, .ref a3, .ref a4, .ref a5, .int (nI P), .int sz])), (a1, .inl (cI, 480, .inl mk)), (a2, .inl (cI, 20, .inl (wp_h mk P t hd 4))), (a3, .inl (cI, 120, .inl (wp_t mk (wp_h mk P t hd 4) t td P))), (a4, .inl (cI, 24, .inl su)), (a5, .inl (cI, 24, .inl gr))]) (Bw D A) A) (cc := cX7_workOutPart) (maxL := 3) (ret := none) (by decide) rfl (Nat.le_of_ble_eq_true rfl) ?_
  intro p e s m args below meth c ls A Q H locs hx hb hr hml hts hown hlk hnm hc hw hl hQ
  have hl : lv_has ls 3 [(0, .ref a0), (1, .int (nI t))] := hl
  have in_7 : ∀ w ∈ u_ws RX7 TX7 7, w ∈ wsX7_workOutPart := fun _ h => List.mem_cons_of_mem _ (List.mem_append_right _ h)
  have lk_0 := hts (.fieldLink RX7 27 "PloughingMatch$Sheet" "plots" "I") (List.mem_of_getElem? (i := 2) rfl)
  have lk_1 := hts (.fieldLink RX7 18 "PloughingMatch$Sheet" "tolds" "[I") (List.mem_of_getElem? (i := 3) rfl)
  have lk_2 := hts (.fieldLink RX7 15 "PloughingMatch$Sheet" "hards" "[I") (List.mem_of_getElem? (i := 1) rfl)
  refine lv_iconst (v := nI 0) hx hb dX7_workOutPart_0 (by decide) ?_
  refine lv_istore_n (lv' := [(2, .int (nI 0)), (0, .ref a0), (1, .int (nI t))]) hx hb dX7_workOutPart_1 rfl hl (by decide) rfl (fun ls hl => ?_)
  have key2 : ∀ (fuel : Nat) (j : Nat) (h1 : Nat → Int32), j ≤ 4 → h1 = wp_h mk P t hd j → 4 - j < fuel → ∀ (H : Heap) (locs : List Loc) (ls : Array Slot), Wd D A s H locs [(a0, .inr (7, [.ref a1, .ref a2, .ref a3, .ref a4, .ref a5, .int (nI P), .int sz])), (a1, .inl (cI, 480, .inl mk)), (a2, .inl (cI, 20, .inl h1)), (a3, .inl (cI, 120, .inl td)), (a4, .inl (cI, 24, .inl su)), (a5, .inl (cI, 24, .inl gr))] → lv_has ls 3 [(0, .ref a0), (1, .int (nI t)), (2, .int (nI j))] → W p l e rm_c_X7_workOutPart s m args below meth c H locs 0 0 Q (F0 m 2 ls []) := by
    intro fuel
    induction fuel with
    | zero => intro j h1 hj e1 hfu; exact absurd hfu (Nat.not_lt_zero _)
    | succ fuel ih =>
      intro j h1 hj e1 hfu H locs ls hw hl
      have ih2 := ih
      refine lv_iload_n hx hb dX7_workOutPart_2 rfl (lv_at hl 2 rfl) ?_
      refine lv_iconst (v := nI 4) hx hb dX7_workOutPart_3 (by decide) ?_
      refine wb_icmp_ge (tgt := 29) hx hb (by omega) (by omega) dX7_workOutPart_4 (by decide) (fun c_1 => ?_) (fun c_1 => ?_)
      · skip
        refine lv_iconst (v := nI 0) hx hb dX7_workOutPart_29 (by decide) ?_
        refine lv_istore_n (lv' := [(2, .int (nI 0)), (0, .ref a0), (1, .int (nI t))]) hx hb dX7_workOutPart_30 rfl hl (by decide) rfl (fun ls hl => ?_)
        have key31 : ∀ (fuel : Nat) (q : Nat) (t1 : Nat → Int32), q ≤ P → t1 = wp_t mk h1 t td q → P - q < fuel → ∀ (H : Heap) (locs : List Loc) (ls : Array Slot), Wd D A s H locs [(a0, .inr (7, [.ref a1, .ref a2, .ref a3, .ref a4, .ref a5, .int (nI P), .int sz])), (a1, .inl (cI, 480, .inl mk)), (a2, .inl (cI, 20, .inl h1)), (a3, .inl (cI, 120, .inl t1)), (a4, .inl (cI, 24, .inl su)), (a5, .inl (cI, 24, .inl gr))] → lv_has ls 3 [(0, .ref a0), (1, .int (nI t)), (2, .int (nI q))] → W p l e rm_c_X7_workOutPart s m args below meth c H locs 0 0 Q (F0 m 31 ls []) := by
          intro fuel
          induction fuel with
          | zero => intro q t1 hq e2 hfu; exact absurd hfu (Nat.not_lt_zero _)
          | succ fuel ih =>
            intro q t1 hq e2 hfu H locs ls hw hl
            have ih31 := ih
            refine lv_iload_n hx hb dX7_workOutPart_31 rfl (lv_at hl 2 rfl) ?_
            refine lv_aload_n hx hb dX7_workOutPart_32 rfl (lv_at hl 0 rfl) ?_
            refine w_get (C := RX7) (T := TX7) (N := 7) (ci := 7) hx hb hts in_7 hown hc hw 0 5 rfl rfl (by decide) lk_0 rfl dX7_workOutPart_33 ?_
            refine wb_icmp_ge (tgt := 61) hx hb (by omega) (by omega) dX7_workOutPart_36 (by decide) (fun c_2 => ?_) (fun c_2 => ?_)
            · skip
              subst hQ
              exact r_v hx hb hr hlk hw (by rw [e2, e1, show j = 4 by omega, show q = P by omega]) dX7_workOutPart_61
            · skip
              refine lv_aload_n hx hb dX7_workOutPart_39 rfl (lv_at hl 0 rfl) ?_
              refine w_get (C := RX7) (T := TX7) (N := 7) (ci := 7) hx hb hts in_7 hown hc hw 0 2 rfl rfl (by decide) lk_1 rfl dX7_workOutPart_40 ?_
              refine lv_iload_n hx hb dX7_workOutPart_43 rfl (lv_at hl 2 rfl) ?_
              refine lv_iconst (v := nI 5) hx hb dX7_workOutPart_44 (by decide) ?_
              refine wn_imul hx hb dX7_workOutPart_45 ?_
              refine lv_iload_n hx hb dX7_workOutPart_46 rfl (lv_at hl 1 rfl) ?_
              refine wn_iadd hx hb dX7_workOutPart_47 ?_
              refine lv_aload_n hx hb dX7_workOutPart_48 rfl (lv_at hl 0 rfl) ?_
              refine lv_iload_n hx hb dX7_workOutPart_49 rfl (lv_at hl 2 rfl) ?_
              refine lv_iload_n hx hb dX7_workOutPart_50 rfl (lv_at hl 1 rfl) ?_
              refine k_i (wr := []) (j_V ⟨hx, hb, hml, hown, hts⟩ (c_X7_workOutTold l D cI cZ cB cJ b0 adK adV a0 a1 a2 a3 a4 a5 mk h1 t1 su gr P sz q t (by omega) (by omega) H.size) (cwV 2 hts gX7_workOutPart_X7_workOutTold rfl rfl rfl (by decide +kernel) ⟨by decide, by decide⟩) hc hw [0, 1, 2, 3, 4, 5] rfl rfl 7 0 rfl rfl rfl rfl hl.1 rfl (Nat.le_of_ble_eq_true rfl) dX7_workOutPart_51 ⟨by decide, by decide⟩) hc hw [0, 1, 2, 3, 4, 5] [] rfl rfl (by decide) (by decide) (fun r w H locs hq hw => ?_)
              obtain ⟨rfl, rfl⟩ := hq
              have hw : Wd D A s H locs [(a0, .inr (7, [.ref a1, .ref a2, .ref a3, .ref a4, .ref a5, .int (nI P), .int sz])), (a1, .inl (cI, 480, .inl mk)), (a2, .inl (cI, 20, .inl h1)), (a3, .inl (cI, 120, .inl t1)), (a4, .inl (cI, 24, .inl su)), (a5, .inl (cI, 24, .inl gr))] := hw
              refine w_iast (ws1 := [(a0, .inr (7, [.ref a1, .ref a2, .ref a3, .ref a4, .ref a5, .int (nI P), .int sz])), (a1, .inl (cI, 480, .inl mk)), (a2, .inl (cI, 20, .inl h1)), (a3, .inl (cI, 120, .inl (upd t1 (q * 5 + t) (toldF mk (fun j => h1 (j * 5 + t)) q t)))), (a4, .inl (cI, 24, .inl su)), (a5, .inl (cI, 24, .inl gr))]) hx hb hc hw 3 rfl rfl (i := q * 5 + t) (by omega) (by decide) rfl dX7_workOutPart_54 (fun H locs hw => ?_)
              refine wn_iinc (a := q) (d := 1) (lv' := [(2, .int (nI (q + 1))), (0, .ref a0), (1, .int (nI t))]) hx hb dX7_workOutPart_55 hl (k := 2) rfl (by decide) rfl (fun ls hl => ?_)
              refine lv_goto (tgt := 31) hx hb dX7_workOutPart_58 (by decide) ?_
              exact ih31 (q + 1) (upd t1 (q * 5 + t) (toldF mk (fun j => h1 (j * 5 + t)) q t)) (by omega) (by rw [e2]; rfl) (by omega) _ _ _ hw (lv_sub hl [1, 2, 0] rfl)
        exact key31 (P - 0 + 1) 0 td (by omega) rfl (Nat.lt_succ_self _) _ _ _ hw (lv_sub hl [1, 2, 0] rfl)
      · skip
        refine lv_aload_n hx hb dX7_workOutPart_7 rfl (lv_at hl 0 rfl) ?_
        refine w_get (C := RX7) (T := TX7) (N := 7) (ci := 7) hx hb hts in_7 hown hc hw 0 1 rfl rfl (by decide) lk_2 rfl dX7_workOutPart_8 ?_
        refine lv_iload_n hx hb dX7_workOutPart_11 rfl (lv_at hl 2 rfl) ?_
        refine lv_iconst (v := nI 5) hx hb dX7_workOutPart_12 (by decide) ?_
        refine wn_imul hx hb dX7_workOutPart_13 ?_
        refine lv_iload_n hx hb dX7_workOutPart_14 rfl (lv_at hl 1 rfl) ?_
        refine wn_iadd hx hb dX7_workOutPart_15 ?_
        refine lv_aload_n hx hb dX7_workOutPart_16 rfl (lv_at hl 0 rfl) ?_
        refine lv_iload_n hx hb dX7_workOutPart_17 rfl (lv_at hl 2 rfl) ?_
        refine lv_iload_n hx hb dX7_workOutPart_18 rfl (lv_at hl 1 rfl) ?_
        refine k_i (wr := []) (j_V ⟨hx, hb, hml, hown, hts⟩ (c_X7_workOutHard l D cI cZ cB cJ b0 adK adV a0 a1 a2 a3 a4 a5 mk h1 td su gr P sz j t (by omega) (by omega) (by omega) H.size) (cwV 2 hts gX7_workOutPart_X7_workOutHard rfl rfl rfl (by decide +kernel) ⟨by decide, by decide⟩) hc hw [0, 1, 2, 3, 4, 5] rfl rfl 7 0 rfl rfl rfl rfl hl.1 rfl (Nat.le_of_ble_eq_true rfl) dX7_workOutPart_19 ⟨by decide, by decide⟩) hc hw [0, 1, 2, 3, 4, 5] [] rfl rfl (by decide) (by decide) (fun r w H locs hq hw => ?_)
        obtain ⟨rfl, rfl⟩ := hq
        have hw : Wd D A s H locs [(a0, .inr (7, [.ref a1, .ref a2, .ref a3, .ref a4, .ref a5, .int (nI P), .int sz])), (a1, .inl (cI, 480, .inl mk)), (a2, .inl (cI, 20, .inl h1)), (a3, .inl (cI, 120, .inl td)), (a4, .inl (cI, 24, .inl su)), (a5, .inl (cI, 24, .inl gr))] := hw
        refine w_iast (ws1 := [(a0, .inr (7, [.ref a1, .ref a2, .ref a3, .ref a4, .ref a5, .int (nI P), .int sz])), (a1, .inl (cI, 480, .inl mk)), (a2, .inl (cI, 20, .inl (upd h1 (j * 5 + t) (hardF mk P j t)))), (a3, .inl (cI, 120, .inl td)), (a4, .inl (cI, 24, .inl su)), (a5, .inl (cI, 24, .inl gr))]) hx hb hc hw 2 rfl rfl (i := j * 5 + t) (by omega) (by decide) rfl dX7_workOutPart_22 (fun H locs hw => ?_)
        refine wn_iinc (a := j) (d := 1) (lv' := [(2, .int (nI (j + 1))), (0, .ref a0), (1, .int (nI t))]) hx hb dX7_workOutPart_23 hl (k := 2) rfl (by decide) rfl (fun ls hl => ?_)
        refine lv_goto (tgt := 2) hx hb dX7_workOutPart_26 (by decide) ?_
        exact ih2 (j + 1) (upd h1 (j * 5 + t) (hardF mk P j t)) (by omega) (by rw [e1]; rfl) (by omega) _ _ _ hw (lv_sub hl [1, 2, 0] rfl)
  exact key2 (4 - 0 + 1) 0 hd (by omega) rfl (Nat.lt_succ_self _) _ _ _ hw (lv_sub hl [1, 2, 0] rfl)
def rm_c_X7_workOutSums : Room := { frames := 1, cells := 0, slots := 0, locals := 22 }
set_option maxHeartbeats 4000000 in
set_option maxRecDepth 100000 in
theorem c_X7_workOutSums (l : Launch) (D : va_G) (cI cZ cB cJ : ClassId) (b0 : Nat) (adK adV : Nat → Nat) (a0 a1 a2 a3 a4 a5 : Nat) (mk : Nat → Int32) (hd : Nat → Int32) (td : Nat → Int32) (su : Nat → Int32) (gr : Nat → Int32) (P : Nat) (sz : Int32) (hP : P ≤ 24) : Mv l yX7_workOutSums wsX7_workOutSums rm_c_X7_workOutSums D (TYs cI cZ cB cJ) b0 adK adV [.ref a0] [(a0, .inr (7, [.ref a1, .ref a2, .ref a3, .ref a4, .ref a5, .int (nI P), .int sz])), (a1, .inl (cI, 480, .inl mk)), (a2, .inl (cI, 20, .inl hd)), (a3, .inl (cI, 120, .inl td)), (a4, .inl (cI, 24, .inl su)), (a5, .inl (cI, 24, .inl gr))] (fun w : va_W => w = [(a0, .inr (7, [.ref a1, .ref a2, .ref a3, .ref a4, .ref a5, .int (nI P), .int sz])), (a1, .inl (cI, 480, .inl mk)), (a2, .inl (cI, 20, .inl hd)), (a3, .inl (cI, 120, .inl td)), (a4, .inl (cI, 24, .inl (sm td su P))), (a5, .inl (cI, 24, .inl gr))]) 0 0 := by
  refine e_M (Qf := fun A => va_Qv (fun w : va_W => w = [(a0, .inr (7, [.ref a1, .ref a2, .ref a3, .ref a4, .ref a5, .int (nI P), .int sz])), (a1, .inl (cI, 480, .inl mk)), (a2, .inl (cI, 20, .inl hd)), (a3, .inl (cI, 120, .inl td)), (a4, .inl (cI, 24, .inl (sm td su P))), (a5, .inl (cI, 24, .inl gr))]) (Bw D A) A) (cc := cX7_workOutSums) (maxL := 5) (ret := none) (by decide) rfl (Nat.le_of_ble_eq_true rfl) ?_
  intro p e s m args below meth c ls A Q H locs hx hb hr hml hts hown hlk hnm hc hw hl hQ
  have hl : lv_has ls 5 [(0, .ref a0)] := hl
  have in_7 : ∀ w ∈ u_ws RX7 TX7 7, w ∈ wsX7_workOutSums := fun _ h => List.mem_cons_of_mem _ (List.mem_append_right _ h)
  have lk_0 := hts (.fieldLink RX7 27 "PloughingMatch$Sheet" "plots" "I") (List.mem_of_getElem? (i := 1) rfl)
  have lk_1 := hts (.fieldLink RX7 21 "PloughingMatch$Sheet" "sums" "[I") (List.mem_of_getElem? (i := 3) rfl)
  have lk_2 := hts (.constant RX7 40 (-100000)) (List.mem_of_getElem? (i := 2) rfl)
  refine lv_iconst (v := nI 0) hx hb dX7_workOutSums_0 (by decide) ?_
  refine lv_istore_n (lv' := [(1, .int (nI 0)), (0, .ref a0)]) hx hb dX7_workOutSums_1 rfl hl (by decide) rfl (fun ls hl => ?_)
  have key2 : ∀ (fuel : Nat) (q : Nat) (s1 : Nat → Int32), q ≤ P → s1 = sm td su q → P - q < fuel → ∀ (H : Heap) (locs : List Loc) (ls : Array Slot), Wd D A s H locs [(a0, .inr (7, [.ref a1, .ref a2, .ref a3, .ref a4, .ref a5, .int (nI P), .int sz])), (a1, .inl (cI, 480, .inl mk)), (a2, .inl (cI, 20, .inl hd)), (a3, .inl (cI, 120, .inl td)), (a4, .inl (cI, 24, .inl s1)), (a5, .inl (cI, 24, .inl gr))] → lv_has ls 5 [(0, .ref a0), (1, .int (nI q))] → W p l e rm_c_X7_workOutSums s m args below meth c H locs 0 0 Q (F0 m 2 ls []) := by
    intro fuel
    induction fuel with
    | zero => intro q s1 hq e1 hfu; exact absurd hfu (Nat.not_lt_zero _)
    | succ fuel ih =>
      intro q s1 hq e1 hfu H locs ls hw hl
      have ih2 := ih
      refine lv_iload_n hx hb dX7_workOutSums_2 rfl (lv_at hl 1 rfl) ?_
      refine lv_aload_n hx hb dX7_workOutSums_3 rfl (lv_at hl 0 rfl) ?_
      refine w_get (C := RX7) (T := TX7) (N := 7) (ci := 7) hx hb hts in_7 hown hc hw 0 5 rfl rfl (by decide) lk_0 rfl dX7_workOutSums_4 ?_
      refine wb_icmp_ge (tgt := 62) hx hb (by omega) (by omega) dX7_workOutSums_7 (by decide) (fun c_1 => ?_) (fun c_1 => ?_)
      · skip
        subst hQ
        exact r_v hx hb hr hlk hw (by rw [e1, show q = P by omega]) dX7_workOutSums_62
      · skip
        refine lv_iconst (v := nI 0) hx hb dX7_workOutSums_10 (by decide) ?_
        refine lv_istore_n (lv' := [(2, .int (nI 0)), (0, .ref a0), (1, .int (nI q))]) hx hb dX7_workOutSums_11 rfl hl (by decide) rfl (fun ls hl => ?_)
        refine lv_iconst (v := nI 0) hx hb dX7_workOutSums_12 (by decide) ?_
        refine lv_istore_n (lv' := [(3, .int (nI 0)), (2, .int (nI 0)), (0, .ref a0), (1, .int (nI q))]) hx hb dX7_workOutSums_13 rfl hl (by decide) rfl (fun ls hl => ?_)
        have key14 : ∀ (fuel : Nat) (t : Nat) (x2 : Int32), t ≤ 5 → x2 = sm1 td q t → 5 - t < fuel → ∀ (H : Heap) (locs : List Loc) (ls : Array Slot), Wd D A s H locs [(a0, .inr (7, [.ref a1, .ref a2, .ref a3, .ref a4, .ref a5, .int (nI P), .int sz])), (a1, .inl (cI, 480, .inl mk)), (a2, .inl (cI, 20, .inl hd)), (a3, .inl (cI, 120, .inl td)), (a4, .inl (cI, 24, .inl s1)), (a5, .inl (cI, 24, .inl gr))] → lv_has ls 5 [(0, .ref a0), (1, .int (nI q)), (2, .int x2), (3, .int (nI t))] → W p l e rm_c_X7_workOutSums s m args below meth c H locs 0 0 Q (F0 m 14 ls []) := by
          intro fuel
          induction fuel with
          | zero => intro t x2 ht e2 hfu; exact absurd hfu (Nat.not_lt_zero _)
          | succ fuel ih =>
            intro t x2 ht e2 hfu H locs ls hw hl
            have ih14 := ih
            refine lv_iload_n hx hb dX7_workOutSums_14 rfl (lv_at hl 3 rfl) ?_
            refine lv_iconst (v := nI 5) hx hb dX7_workOutSums_15 (by decide) ?_
            refine wb_icmp_ge (tgt := 49) hx hb (by omega) (by omega) dX7_workOutSums_16 (by decide) (fun c_2 => ?_) (fun c_2 => ?_)
            · skip
              refine lv_aload_n hx hb dX7_workOutSums_49 rfl (lv_at hl 0 rfl) ?_
              refine w_get (C := RX7) (T := TX7) (N := 7) (ci := 7) hx hb hts in_7 hown hc hw 0 3 rfl rfl (by decide) lk_1 rfl dX7_workOutSums_50 ?_
              refine lv_iload_n hx hb dX7_workOutSums_53 rfl (lv_at hl 1 rfl) ?_
              refine lv_iload_n hx hb dX7_workOutSums_54 rfl (lv_at hl 2 rfl) ?_
              refine w_iast (ws1 := [(a0, .inr (7, [.ref a1, .ref a2, .ref a3, .ref a4, .ref a5, .int (nI P), .int sz])), (a1, .inl (cI, 480, .inl mk)), (a2, .inl (cI, 20, .inl hd)), (a3, .inl (cI, 120, .inl td)), (a4, .inl (cI, 24, .inl (upd s1 q x2))), (a5, .inl (cI, 24, .inl gr))]) hx hb hc hw 4 rfl rfl (i := q) (by omega) (by decide) rfl dX7_workOutSums_55 (fun H locs hw => ?_)
              refine wn_iinc (a := q) (d := 1) (lv' := [(1, .int (nI (q + 1))), (0, .ref a0), (2, .int x2), (3, .int (nI t))]) hx hb dX7_workOutSums_56 hl (k := 1) rfl (by decide) rfl (fun ls hl => ?_)
              refine lv_goto (tgt := 2) hx hb dX7_workOutSums_59 (by decide) ?_
              exact ih2 (q + 1) (upd s1 q x2) (by omega) (by rw [e1, e2, show t = 5 by omega]; rfl) (by omega) _ _ _ hw (lv_sub hl [1, 0] rfl)
            · skip
              refine lv_aload_n hx hb dX7_workOutSums_19 rfl (lv_at hl 0 rfl) ?_
              refine lv_iload_n hx hb dX7_workOutSums_20 rfl (lv_at hl 1 rfl) ?_
              refine lv_iload_n hx hb dX7_workOutSums_21 rfl (lv_at hl 3 rfl) ?_
              refine k_i (wr := []) (j_V ⟨hx, hb, hml, hown, hts⟩ (c_X7_toldOf l D cI cZ cB cJ b0 adK adV a0 a1 a2 a3 a4 a5 mk hd td s1 gr P sz q t (by omega) (by omega) H.size) (cwV 2 hts gX7_workOutSums_X7_toldOf rfl rfl rfl (by decide +kernel) ⟨by decide, by decide⟩) hc hw [0, 1, 2, 3, 4, 5] rfl rfl 7 0 rfl rfl rfl rfl hl.1 rfl (Nat.le_of_ble_eq_true rfl) dX7_workOutSums_22 ⟨by decide, by decide⟩) hc hw [0, 1, 2, 3, 4, 5] [] rfl rfl (by decide) (by decide) (fun r w H locs hq hw => ?_)
              obtain ⟨rfl, rfl⟩ := hq
              have hw : Wd D A s H locs [(a0, .inr (7, [.ref a1, .ref a2, .ref a3, .ref a4, .ref a5, .int (nI P), .int sz])), (a1, .inl (cI, 480, .inl mk)), (a2, .inl (cI, 20, .inl hd)), (a3, .inl (cI, 120, .inl td)), (a4, .inl (cI, 24, .inl s1)), (a5, .inl (cI, 24, .inl gr))] := hw
              refine lv_istore (lv' := [(4, .int (td (q * 5 + t))), (0, .ref a0), (1, .int (nI q)), (2, .int x2), (3, .int (nI t))]) hx hb dX7_workOutSums_25 hl (by decide) rfl (fun ls hl => ?_)
              refine lv_iload_n hx hb dX7_workOutSums_27 rfl (lv_at hl 3 rfl) ?_
              refine lv_iload hx hb dX7_workOutSums_28 (lv_at hl 0 rfl) ?_
              refine lv_ldc (v := (-100000)) hx hb hown lk_2 dX7_workOutSums_30 ?_
              refine lv_icmp_ne (tgt := 39) hx hb dX7_workOutSums_32 (by decide) (fun c_3 => ?_) (fun c_3 => ?_)
              · skip
                refine lv_iload hx hb dX7_workOutSums_39 (lv_at hl 0 rfl) ?_
                refine lv_iadd hx hb dX7_workOutSums_41 ?_
                refine lv_istore_n (lv' := [(2, .int (x2 + (td (q * 5 + t)))), (4, .int (td (q * 5 + t))), (0, .ref a0), (1, .int (nI q)), (3, .int (nI t))]) hx hb dX7_workOutSums_42 rfl hl (by decide) rfl (fun ls hl => ?_)
                refine wn_iinc (a := t) (d := 1) (lv' := [(3, .int (nI (t + 1))), (2, .int (x2 + (td (q * 5 + t)))), (4, .int (td (q * 5 + t))), (0, .ref a0), (1, .int (nI q))]) hx hb dX7_workOutSums_43 hl (k := 4) rfl (by decide) rfl (fun ls hl => ?_)
                refine lv_goto (tgt := 14) hx hb dX7_workOutSums_46 (by decide) ?_
                exact ih14 (t + 1) (x2 + (td (q * 5 + t))) (by omega) (by simp [sm1, e2, c_1, c_2, c_3]) (by omega) _ _ _ hw (lv_sub hl [3, 4, 1, 0] rfl)
              · skip
                refine lv_iconst (v := nI 0) hx hb dX7_workOutSums_35 (by decide) ?_
                refine lv_goto (tgt := 41) hx hb dX7_workOutSums_36 (by decide) ?_
                refine lv_iadd hx hb dX7_workOutSums_41 ?_
                refine lv_istore_n (lv' := [(2, .int (x2 + (nI 0))), (4, .int (td (q * 5 + t))), (0, .ref a0), (1, .int (nI q)), (3, .int (nI t))]) hx hb dX7_workOutSums_42 rfl hl (by decide) rfl (fun ls hl => ?_)
                refine wn_iinc (a := t) (d := 1) (lv' := [(3, .int (nI (t + 1))), (2, .int (x2 + (nI 0))), (4, .int (td (q * 5 + t))), (0, .ref a0), (1, .int (nI q))]) hx hb dX7_workOutSums_43 hl (k := 4) rfl (by decide) rfl (fun ls hl => ?_)
                refine lv_goto (tgt := 14) hx hb dX7_workOutSums_46 (by decide) ?_
                exact ih14 (t + 1) (x2 + (nI 0)) (by omega) (by simp [sm1, e2, c_1, c_2, c_3]) (by omega) _ _ _ hw (lv_sub hl [3, 4, 1, 0] rfl)
        exact key14 (5 - 0 + 1) 0 (nI 0) (by omega) nI_0 (Nat.lt_succ_self _) _ _ _ hw (lv_sub hl [2, 3, 1, 0] rfl)
  exact key2 (P - 0 + 1) 0 su (by omega) rfl (Nat.lt_succ_self _) _ _ _ hw (lv_sub hl [1, 0] rfl)
def rm_c_X7_neighboursMean : Room := { frames := 1, cells := 0, slots := 0, locals := 22 }
set_option maxHeartbeats 4000000 in
set_option maxRecDepth 100000 in
theorem c_X7_neighboursMean (l : Launch) (D : va_G) (cI cZ cB cJ : ClassId) (b0 : Nat) (adK adV : Nat → Nat) (a0 a1 a2 a3 a4 a5 : Nat) (mk : Nat → Int32) (hd : Nat → Int32) (td : Nat → Int32) (su : Nat → Int32) (gr : Nat → Int32) (P : Nat) (sz : Int32) (q : Nat) (hP : P ≤ 24) (hq : q < P) (h2 : 2 ≤ P) : Mi l yX7_neighboursMean wsX7_neighboursMean rm_c_X7_neighboursMean D (TYs cI cZ cB cJ) b0 adK adV [.ref a0, .int (nI q)] [(a0, .inr (7, [.ref a1, .ref a2, .ref a3, .ref a4, .ref a5, .int (nI P), .int sz])), (a1, .inl (cI, 480, .inl mk)), (a2, .inl (cI, 20, .inl hd)), (a3, .inl (cI, 120, .inl td)), (a4, .inl (cI, 24, .inl su)), (a5, .inl (cI, 24, .inl gr))] (fun (r : Int32) (w : va_W) => r = gr_nb su P q ∧ w = [(a0, .inr (7, [.ref a1, .ref a2, .ref a3, .ref a4, .ref a5, .int (nI P), .int sz])), (a1, .inl (cI, 480, .inl mk)), (a2, .inl (cI, 20, .inl hd)), (a3, .inl (cI, 120, .inl td)), (a4, .inl (cI, 24, .inl su)), (a5, .inl (cI, 24, .inl gr))]) 0 0 := by
  refine e_M (Qf := fun A => va_Qi (fun (r : Int32) (w : va_W) => r = gr_nb su P q ∧ w = [(a0, .inr (7, [.ref a1, .ref a2, .ref a3, .ref a4, .ref a5, .int (nI P), .int sz])), (a1, .inl (cI, 480, .inl mk)), (a2, .inl (cI, 20, .inl hd)), (a3, .inl (cI, 120, .inl td)), (a4, .inl (cI, 24, .inl su)), (a5, .inl (cI, 24, .inl gr))]) (Bw D A) A) (cc := cX7_neighboursMean) (maxL := 2) (ret := (some .int)) (by decide) rfl (Nat.le_of_ble_eq_true rfl) ?_
  intro p e s m args below meth c ls A Q H locs hx hb hr hml hts hown hlk hnm hc hw hl hQ
  have hl : lv_has ls 2 [(0, .ref a0), (1, .int (nI q))] := hl
  have in_7 : ∀ w ∈ u_ws RX7 TX7 7, w ∈ wsX7_neighboursMean := fun _ h => List.mem_cons_of_mem _ (List.mem_append_right _ h)
  have lk_0 := hts (.fieldLink RX7 27 "PloughingMatch$Sheet" "plots" "I") (List.mem_of_getElem? (i := 2) rfl)
  have lk_1 := hts (.fieldLink RX7 21 "PloughingMatch$Sheet" "sums" "[I") (List.mem_of_getElem? (i := 1) rfl)
  refine lv_iload_n hx hb dX7_neighboursMean_0 rfl (lv_at hl 1 rfl) ?_
  refine wb_if_ne (tgt := 11) hx hb (by omega) dX7_neighboursMean_1 (by decide) (fun c_1 => ?_) (fun c_1 => ?_)
  · skip
    refine lv_iload_n hx hb dX7_neighboursMean_11 rfl (lv_at hl 1 rfl) ?_
    refine lv_aload_n hx hb dX7_neighboursMean_12 rfl (lv_at hl 0 rfl) ?_
    refine w_get (C := RX7) (T := TX7) (N := 7) (ci := 7) hx hb hts in_7 hown hc hw 0 5 rfl rfl (by decide) lk_0 rfl dX7_neighboursMean_13 ?_
    refine lv_iconst (v := nI 1) hx hb dX7_neighboursMean_16 (by decide) ?_
    refine wn_isub hx hb (by omega) dX7_neighboursMean_17 ?_
    refine wb_icmp_ne (tgt := 30) hx hb (by omega) (by omega) dX7_neighboursMean_18 (by decide) (fun c_2 => ?_) (fun c_2 => ?_)
    · skip
      refine lv_aload_n hx hb dX7_neighboursMean_30 rfl (lv_at hl 0 rfl) ?_
      refine w_get (C := RX7) (T := TX7) (N := 7) (ci := 7) hx hb hts in_7 hown hc hw 0 3 rfl rfl (by decide) lk_1 rfl dX7_neighboursMean_31 ?_
      refine lv_iload_n hx hb dX7_neighboursMean_34 rfl (lv_at hl 1 rfl) ?_
      refine lv_iconst (v := nI 1) hx hb dX7_neighboursMean_35 (by decide) ?_
      refine wn_isub hx hb (by omega) dX7_neighboursMean_36 ?_
      refine w_iald hx hb hc hw 4 rfl rfl (i := q - 1) (by omega) (by decide) dX7_neighboursMean_37 ?_
      refine lv_aload_n hx hb dX7_neighboursMean_38 rfl (lv_at hl 0 rfl) ?_
      refine w_get (C := RX7) (T := TX7) (N := 7) (ci := 7) hx hb hts in_7 hown hc hw 0 3 rfl rfl (by decide) lk_1 rfl dX7_neighboursMean_39 ?_
      refine lv_iload_n hx hb dX7_neighboursMean_42 rfl (lv_at hl 1 rfl) ?_
      refine lv_iconst (v := nI 1) hx hb dX7_neighboursMean_43 (by decide) ?_
      refine wn_iadd hx hb dX7_neighboursMean_44 ?_
      refine w_iald hx hb hc hw 4 rfl rfl (i := q + 1) (by omega) (by decide) dX7_neighboursMean_45 ?_
      refine lv_iadd hx hb dX7_neighboursMean_46 ?_
      refine lv_iconst (v := nI 2) hx hb dX7_neighboursMean_47 (by decide) ?_
      refine k_i (wr := [(a0, .inr (7, [.ref a1, .ref a2, .ref a3, .ref a4, .ref a5, .int (nI P), .int sz])), (a1, .inl (cI, 480, .inl mk)), (a2, .inl (cI, 20, .inl hd)), (a3, .inl (cI, 120, .inl td)), (a4, .inl (cI, 24, .inl su)), (a5, .inl (cI, 24, .inl gr))]) (j_S ⟨hx, hb, hml, hown, hts⟩ (c_J9_floorDiv_7cf53 l D cI cZ cB cJ b0 adK adV ((su (q - 1)) + (su (q + 1))) 2 (by decide) (by decide) H.size) (va_cwS 2 hts gX7_neighboursMean_J9_floorDiv_7cf53 rfl rfl rfl (by decide +kernel) ⟨by decide, by decide⟩) hc hw [] rfl rfl rfl hl.1 rfl (Nat.le_of_ble_eq_true rfl) dX7_neighboursMean_48 ⟨by decide, by decide⟩) hc hw [] [0, 1, 2, 3, 4, 5] rfl rfl (by decide) (by decide) (fun r w H locs hq hw => ?_)
      obtain ⟨rfl, rfl⟩ := hq
      have hw : Wd D A s H locs [(a0, .inr (7, [.ref a1, .ref a2, .ref a3, .ref a4, .ref a5, .int (nI P), .int sz])), (a1, .inl (cI, 480, .inl mk)), (a2, .inl (cI, 20, .inl hd)), (a3, .inl (cI, 120, .inl td)), (a4, .inl (cI, 24, .inl su)), (a5, .inl (cI, 24, .inl gr))] := hw
      subst hQ
      exact r_i hx hb hr rfl hlk hw ⟨(by simp [gr_nb, show q ≠ 0 by omega, show q ≠ P - 1 by omega]), rfl⟩ dX7_neighboursMean_51
    · skip
      refine lv_aload_n hx hb dX7_neighboursMean_21 rfl (lv_at hl 0 rfl) ?_
      refine w_get (C := RX7) (T := TX7) (N := 7) (ci := 7) hx hb hts in_7 hown hc hw 0 3 rfl rfl (by decide) lk_1 rfl dX7_neighboursMean_22 ?_
      refine lv_iload_n hx hb dX7_neighboursMean_25 rfl (lv_at hl 1 rfl) ?_
      refine lv_iconst (v := nI 1) hx hb dX7_neighboursMean_26 (by decide) ?_
      refine wn_isub hx hb (by omega) dX7_neighboursMean_27 ?_
      refine w_iald hx hb hc hw 4 rfl rfl (i := q - 1) (by omega) (by decide) dX7_neighboursMean_28 ?_
      subst hQ
      exact r_i hx hb hr rfl hlk hw ⟨(by unfold gr_nb; rw [if_neg (by omega), if_pos (by omega)]), rfl⟩ dX7_neighboursMean_29
  · skip
    refine lv_aload_n hx hb dX7_neighboursMean_4 rfl (lv_at hl 0 rfl) ?_
    refine w_get (C := RX7) (T := TX7) (N := 7) (ci := 7) hx hb hts in_7 hown hc hw 0 3 rfl rfl (by decide) lk_1 rfl dX7_neighboursMean_5 ?_
    refine lv_iconst (v := nI 1) hx hb dX7_neighboursMean_8 (by decide) ?_
    refine w_iald hx hb hc hw 4 rfl rfl (i := 1) (by omega) (by decide) dX7_neighboursMean_9 ?_
    subst hQ
    exact r_i hx hb hr rfl hlk hw ⟨(by simp [gr_nb, show q = 0 by omega]), rfl⟩ dX7_neighboursMean_10
def rm_c_X7_workOutGrounds : Room := { frames := 2, cells := 0, slots := 0, locals := 43 }
set_option maxHeartbeats 4000000 in
set_option maxRecDepth 100000 in
theorem c_X7_workOutGrounds (l : Launch) (D : va_G) (cI cZ cB cJ : ClassId) (b0 : Nat) (adK adV : Nat → Nat) (a0 a1 a2 a3 a4 a5 : Nat) (mk : Nat → Int32) (hd : Nat → Int32) (td : Nat → Int32) (su : Nat → Int32) (gr : Nat → Int32) (P : Nat) (sz : Int32) (hP : P ≤ 24) : Mv l yX7_workOutGrounds wsX7_workOutGrounds rm_c_X7_workOutGrounds D (TYs cI cZ cB cJ) b0 adK adV [.ref a0] [(a0, .inr (7, [.ref a1, .ref a2, .ref a3, .ref a4, .ref a5, .int (nI P), .int sz])), (a1, .inl (cI, 480, .inl mk)), (a2, .inl (cI, 20, .inl hd)), (a3, .inl (cI, 120, .inl td)), (a4, .inl (cI, 24, .inl su)), (a5, .inl (cI, 24, .inl gr))] (fun w : va_W => w = [(a0, .inr (7, [.ref a1, .ref a2, .ref a3, .ref a4, .ref a5, .int (nI P), .int sz])), (a1, .inl (cI, 480, .inl mk)), (a2, .inl (cI, 20, .inl hd)), (a3, .inl (cI, 120, .inl td)), (a4, .inl (cI, 24, .inl su)), (a5, .inl (cI, 24, .inl (grF su P gr)))]) 0 0 := by
  refine e_M (Qf := fun A => va_Qv (fun w : va_W => w = [(a0, .inr (7, [.ref a1, .ref a2, .ref a3, .ref a4, .ref a5, .int (nI P), .int sz])), (a1, .inl (cI, 480, .inl mk)), (a2, .inl (cI, 20, .inl hd)), (a3, .inl (cI, 120, .inl td)), (a4, .inl (cI, 24, .inl su)), (a5, .inl (cI, 24, .inl (grF su P gr)))]) (Bw D A) A) (cc := cX7_workOutGrounds) (maxL := 4) (ret := none) (by decide) rfl (Nat.le_of_ble_eq_true rfl) ?_
  intro p e s m args below meth c ls A Q H locs hx hb hr hml hts hown hlk hnm hc hw hl hQ
  have hl : lv_has ls 4 [(0, .ref a0)] := hl
  have in_7 : ∀ w ∈ u_ws RX7 TX7 7, w ∈ wsX7_workOutGrounds := fun _ h => List.mem_cons_of_mem _ (List.mem_append_right _ h)
  have lk_0 := hts (.fieldLink RX7 27 "PloughingMatch$Sheet" "plots" "I") (List.mem_of_getElem? (i := 1) rfl)
  have lk_1 := hts (.fieldLink RX7 24 "PloughingMatch$Sheet" "grounds" "[I") (List.mem_of_getElem? (i := 3) rfl)
  have lk_2 := hts (.fieldLink RX7 21 "PloughingMatch$Sheet" "sums" "[I") (List.mem_of_getElem? (i := 2) rfl)
  refine lv_aload_n hx hb dX7_workOutGrounds_0 rfl (lv_at hl 0 rfl) ?_
  refine w_get (C := RX7) (T := TX7) (N := 7) (ci := 7) hx hb hts in_7 hown hc hw 0 5 rfl rfl (by decide) lk_0 rfl dX7_workOutGrounds_1 ?_
  refine lv_iconst (v := nI 2) hx hb dX7_workOutGrounds_4 (by decide) ?_
  refine wb_icmp_ge (tgt := 9) hx hb (by omega) (by omega) dX7_workOutGrounds_5 (by decide) (fun c_1 => ?_) (fun c_1 => ?_)
  · skip
    refine lv_iconst (v := nI 0) hx hb dX7_workOutGrounds_9 (by decide) ?_
    refine lv_istore_n (lv' := [(1, .int (nI 0)), (0, .ref a0)]) hx hb dX7_workOutGrounds_10 rfl hl (by decide) rfl (fun ls hl => ?_)
    refine lv_iconst (v := nI 0) hx hb dX7_workOutGrounds_11 (by decide) ?_
    refine lv_istore_n (lv' := [(2, .int (nI 0)), (1, .int (nI 0)), (0, .ref a0)]) hx hb dX7_workOutGrounds_12 rfl hl (by decide) rfl (fun ls hl => ?_)
    have key13 : ∀ (fuel : Nat) (k : Nat) (x1 : Int32), k ≤ P → x1 = gr_all su k → P - k < fuel → ∀ (H : Heap) (locs : List Loc) (ls : Array Slot), Wd D A s H locs [(a0, .inr (7, [.ref a1, .ref a2, .ref a3, .ref a4, .ref a5, .int (nI P), .int sz])), (a1, .inl (cI, 480, .inl mk)), (a2, .inl (cI, 20, .inl hd)), (a3, .inl (cI, 120, .inl td)), (a4, .inl (cI, 24, .inl su)), (a5, .inl (cI, 24, .inl gr))] → lv_has ls 4 [(0, .ref a0), (1, .int x1), (2, .int (nI k))] → W p l e rm_c_X7_workOutGrounds s m args below meth c H locs 0 0 Q (F0 m 13 ls []) := by
      intro fuel
      induction fuel with
      | zero => intro k x1 hk e1 hfu; exact absurd hfu (Nat.not_lt_zero _)
      | succ fuel ih =>
        intro k x1 hk e1 hfu H locs ls hw hl
        have ih13 := ih
        refine lv_iload_n hx hb dX7_workOutGrounds_13 rfl (lv_at hl 2 rfl) ?_
        refine lv_aload_n hx hb dX7_workOutGrounds_14 rfl (lv_at hl 0 rfl) ?_
        refine w_get (C := RX7) (T := TX7) (N := 7) (ci := 7) hx hb hts in_7 hown hc hw 0 5 rfl rfl (by decide) lk_0 rfl dX7_workOutGrounds_15 ?_
        refine wb_icmp_ge (tgt := 36) hx hb (by omega) (by omega) dX7_workOutGrounds_18 (by decide) (fun c_2 => ?_) (fun c_2 => ?_)
        · skip
          refine lv_iload_n hx hb dX7_workOutGrounds_36 rfl (lv_at hl 1 rfl) ?_
          refine lv_aload_n hx hb dX7_workOutGrounds_37 rfl (lv_at hl 0 rfl) ?_
          refine w_get (C := RX7) (T := TX7) (N := 7) (ci := 7) hx hb hts in_7 hown hc hw 0 5 rfl rfl (by decide) lk_0 rfl dX7_workOutGrounds_38 ?_
          refine k_i (wr := [(a0, .inr (7, [.ref a1, .ref a2, .ref a3, .ref a4, .ref a5, .int (nI P), .int sz])), (a1, .inl (cI, 480, .inl mk)), (a2, .inl (cI, 20, .inl hd)), (a3, .inl (cI, 120, .inl td)), (a4, .inl (cI, 24, .inl su)), (a5, .inl (cI, 24, .inl gr))]) (j_S ⟨hx, hb, hml, hown, hts⟩ (c_J9_floorDiv_7cf53 l D cI cZ cB cJ b0 adK adV x1 P (by omega) (by omega) H.size) (va_cwS 2 hts gX7_workOutGrounds_J9_floorDiv_7cf53 rfl rfl rfl (by decide +kernel) ⟨by decide, by decide⟩) hc hw [] rfl rfl rfl hl.1 rfl (Nat.le_of_ble_eq_true rfl) dX7_workOutGrounds_41 ⟨by decide, by decide⟩) hc hw [] [0, 1, 2, 3, 4, 5] rfl rfl (by decide) (by decide) (fun r w H locs hq hw => ?_)
          obtain ⟨rfl, rfl⟩ := hq
          have hw : Wd D A s H locs [(a0, .inr (7, [.ref a1, .ref a2, .ref a3, .ref a4, .ref a5, .int (nI P), .int sz])), (a1, .inl (cI, 480, .inl mk)), (a2, .inl (cI, 20, .inl hd)), (a3, .inl (cI, 120, .inl td)), (a4, .inl (cI, 24, .inl su)), (a5, .inl (cI, 24, .inl gr))] := hw
          refine lv_istore_n (lv' := [(2, .int (fdiv x1 P)), (0, .ref a0), (1, .int x1)]) hx hb dX7_workOutGrounds_44 rfl hl (by decide) rfl (fun ls hl => ?_)
          refine lv_iconst (v := nI 0) hx hb dX7_workOutGrounds_45 (by decide) ?_
          refine lv_istore_n (lv' := [(3, .int (nI 0)), (2, .int (fdiv x1 P)), (0, .ref a0), (1, .int x1)]) hx hb dX7_workOutGrounds_46 rfl hl (by decide) rfl (fun ls hl => ?_)
          have key47 : ∀ (fuel : Nat) (q : Nat) (g1 : Nat → Int32), q ≤ P → g1 = gr_f su P gr q → P - q < fuel → ∀ (H : Heap) (locs : List Loc) (ls : Array Slot), Wd D A s H locs [(a0, .inr (7, [.ref a1, .ref a2, .ref a3, .ref a4, .ref a5, .int (nI P), .int sz])), (a1, .inl (cI, 480, .inl mk)), (a2, .inl (cI, 20, .inl hd)), (a3, .inl (cI, 120, .inl td)), (a4, .inl (cI, 24, .inl su)), (a5, .inl (cI, 24, .inl g1))] → lv_has ls 4 [(0, .ref a0), (1, .int x1), (2, .int (fdiv x1 P)), (3, .int (nI q))] → W p l e rm_c_X7_workOutGrounds s m args below meth c H locs 0 0 Q (F0 m 47 ls []) := by
            intro fuel
            induction fuel with
            | zero => intro q g1 hq e2 hfu; exact absurd hfu (Nat.not_lt_zero _)
            | succ fuel ih =>
              intro q g1 hq e2 hfu H locs ls hw hl
              have ih47 := ih
              refine lv_iload_n hx hb dX7_workOutGrounds_47 rfl (lv_at hl 3 rfl) ?_
              refine lv_aload_n hx hb dX7_workOutGrounds_48 rfl (lv_at hl 0 rfl) ?_
              refine w_get (C := RX7) (T := TX7) (N := 7) (ci := 7) hx hb hts in_7 hown hc hw 0 5 rfl rfl (by decide) lk_0 rfl dX7_workOutGrounds_49 ?_
              refine wb_icmp_ge (tgt := 78) hx hb (by omega) (by omega) dX7_workOutGrounds_52 (by decide) (fun c_3 => ?_) (fun c_3 => ?_)
              · skip
                subst hQ
                exact r_v hx hb hr hlk hw (by rw [e2, show q = P by omega]; simp [grF, show ¬ P < 2 by omega]) dX7_workOutGrounds_78
              · skip
                refine lv_aload_n hx hb dX7_workOutGrounds_55 rfl (lv_at hl 0 rfl) ?_
                refine w_get (C := RX7) (T := TX7) (N := 7) (ci := 7) hx hb hts in_7 hown hc hw 0 4 rfl rfl (by decide) lk_1 rfl dX7_workOutGrounds_56 ?_
                refine lv_iload_n hx hb dX7_workOutGrounds_59 rfl (lv_at hl 3 rfl) ?_
                refine lv_aload_n hx hb dX7_workOutGrounds_60 rfl (lv_at hl 0 rfl) ?_
                refine lv_iload_n hx hb dX7_workOutGrounds_61 rfl (lv_at hl 3 rfl) ?_
                refine k_i (wr := []) (j_V ⟨hx, hb, hml, hown, hts⟩ (c_X7_neighboursMean l D cI cZ cB cJ b0 adK adV a0 a1 a2 a3 a4 a5 mk hd td su g1 P sz q (by omega) (by omega) (by omega) H.size) (cwV 1 hts gX7_workOutGrounds_X7_neighboursMean rfl rfl rfl (by decide +kernel) ⟨by decide, by decide⟩) hc hw [0, 1, 2, 3, 4, 5] rfl rfl 7 0 rfl rfl rfl rfl hl.1 rfl (Nat.le_of_ble_eq_true rfl) dX7_workOutGrounds_62 ⟨by decide, by decide⟩) hc hw [0, 1, 2, 3, 4, 5] [] rfl rfl (by decide) (by decide) (fun r w H locs hq hw => ?_)
                obtain ⟨rfl, rfl⟩ := hq
                have hw : Wd D A s H locs [(a0, .inr (7, [.ref a1, .ref a2, .ref a3, .ref a4, .ref a5, .int (nI P), .int sz])), (a1, .inl (cI, 480, .inl mk)), (a2, .inl (cI, 20, .inl hd)), (a3, .inl (cI, 120, .inl td)), (a4, .inl (cI, 24, .inl su)), (a5, .inl (cI, 24, .inl g1))] := hw
                refine lv_iload_n hx hb dX7_workOutGrounds_65 rfl (lv_at hl 2 rfl) ?_
                refine lv_isub hx hb dX7_workOutGrounds_66 ?_
                refine lv_iconst (v := nI 4) hx hb dX7_workOutGrounds_67 (by decide) ?_
                refine k_i (wr := [(a0, .inr (7, [.ref a1, .ref a2, .ref a3, .ref a4, .ref a5, .int (nI P), .int sz])), (a1, .inl (cI, 480, .inl mk)), (a2, .inl (cI, 20, .inl hd)), (a3, .inl (cI, 120, .inl td)), (a4, .inl (cI, 24, .inl su)), (a5, .inl (cI, 24, .inl g1))]) (j_S ⟨hx, hb, hml, hown, hts⟩ (c_J9_floorDiv_7cf53 l D cI cZ cB cJ b0 adK adV ((gr_nb su P q) - (fdiv x1 P)) 4 (by decide) (by decide) H.size) (va_cwS 2 hts gX7_workOutGrounds_J9_floorDiv_7cf53 rfl rfl rfl (by decide +kernel) ⟨by decide, by decide⟩) hc hw [] rfl rfl rfl hl.1 rfl (Nat.le_of_ble_eq_true rfl) dX7_workOutGrounds_68 ⟨by decide, by decide⟩) hc hw [] [0, 1, 2, 3, 4, 5] rfl rfl (by decide) (by decide) (fun r w H locs hq hw => ?_)
                obtain ⟨rfl, rfl⟩ := hq
                have hw : Wd D A s H locs [(a0, .inr (7, [.ref a1, .ref a2, .ref a3, .ref a4, .ref a5, .int (nI P), .int sz])), (a1, .inl (cI, 480, .inl mk)), (a2, .inl (cI, 20, .inl hd)), (a3, .inl (cI, 120, .inl td)), (a4, .inl (cI, 24, .inl su)), (a5, .inl (cI, 24, .inl g1))] := hw
                refine w_iast (ws1 := [(a0, .inr (7, [.ref a1, .ref a2, .ref a3, .ref a4, .ref a5, .int (nI P), .int sz])), (a1, .inl (cI, 480, .inl mk)), (a2, .inl (cI, 20, .inl hd)), (a3, .inl (cI, 120, .inl td)), (a4, .inl (cI, 24, .inl su)), (a5, .inl (cI, 24, .inl (upd g1 q (fdiv ((gr_nb su P q) - (fdiv x1 P)) 4))))]) hx hb hc hw 5 rfl rfl (i := q) (by omega) (by decide) rfl dX7_workOutGrounds_71 (fun H locs hw => ?_)
                refine wn_iinc (a := q) (d := 1) (lv' := [(3, .int (nI (q + 1))), (0, .ref a0), (1, .int x1), (2, .int (fdiv x1 P))]) hx hb dX7_workOutGrounds_72 hl (k := 3) rfl (by decide) rfl (fun ls hl => ?_)
                refine lv_goto (tgt := 47) hx hb dX7_workOutGrounds_75 (by decide) ?_
                exact ih47 (q + 1) (upd g1 q (fdiv ((gr_nb su P q) - (fdiv x1 P)) 4)) (by omega) (by rw [e2, e1, show k = P by omega]; rfl) (by omega) _ _ _ hw (lv_sub hl [1, 2, 3, 0] rfl)
          exact key47 (P - 0 + 1) 0 gr (by omega) rfl (Nat.lt_succ_self _) _ _ _ hw (lv_sub hl [2, 3, 1, 0] rfl)
        · skip
          refine lv_iload_n hx hb dX7_workOutGrounds_21 rfl (lv_at hl 1 rfl) ?_
          refine lv_aload_n hx hb dX7_workOutGrounds_22 rfl (lv_at hl 0 rfl) ?_
          refine w_get (C := RX7) (T := TX7) (N := 7) (ci := 7) hx hb hts in_7 hown hc hw 0 3 rfl rfl (by decide) lk_2 rfl dX7_workOutGrounds_23 ?_
          refine lv_iload_n hx hb dX7_workOutGrounds_26 rfl (lv_at hl 2 rfl) ?_
          refine w_iald hx hb hc hw 4 rfl rfl (i := k) (by omega) (by decide) dX7_workOutGrounds_27 ?_
          refine lv_iadd hx hb dX7_workOutGrounds_28 ?_
          refine lv_istore_n (lv' := [(1, .int (x1 + (su k))), (0, .ref a0), (2, .int (nI k))]) hx hb dX7_workOutGrounds_29 rfl hl (by decide) rfl (fun ls hl => ?_)
          refine wn_iinc (a := k) (d := 1) (lv' := [(2, .int (nI (k + 1))), (1, .int (x1 + (su k))), (0, .ref a0)]) hx hb dX7_workOutGrounds_30 hl (k := 2) rfl (by decide) rfl (fun ls hl => ?_)
          refine lv_goto (tgt := 13) hx hb dX7_workOutGrounds_33 (by decide) ?_
          exact ih13 (k + 1) (x1 + (su k)) (by omega) (by rw [e1]; rfl) (by omega) _ _ _ hw (lv_sub hl [2, 1, 0] rfl)
    exact key13 (P - 0 + 1) 0 (nI 0) (by omega) nI_0 (Nat.lt_succ_self _) _ _ _ hw (lv_sub hl [2, 1, 0] rfl)
  · skip
    subst hQ
    exact r_v hx hb hr hlk hw (by simp [grF, show P < 2 by omega]) dX7_workOutGrounds_8
def rm_c_X7_put : Room := { frames := 3, cells := 0, slots := 0, locals := 72 }
set_option maxHeartbeats 4000000 in
set_option maxRecDepth 100000 in
theorem c_X7_put (l : Launch) (D : va_G) (cI cZ cB cJ : ClassId) (b0 : Nat) (adK adV : Nat → Nat) (a0 a1 a2 a3 a4 a5 : Nat) (mk : Nat → Int32) (hd : Nat → Int32) (td : Nat → Int32) (su : Nat → Int32) (gr : Nat → Int32) (P : Nat) (sz : Int32) (j : Nat) (q : Nat) (t : Nat) (v : Int32) (hP : P ≤ 24) (hj : j < 4) (hq : q < 24) (ht : t < 5) : Mi l yX7_put wsX7_put rm_c_X7_put D (TYs cI cZ cB cJ) b0 adK adV [.ref a0, .int (nI j), .int (nI q), .int (nI t), .int v] [(a0, .inr (7, [.ref a1, .ref a2, .ref a3, .ref a4, .ref a5, .int (nI P), .int sz])), (a1, .inl (cI, 480, .inl mk)), (a2, .inl (cI, 20, .inl hd)), (a3, .inl (cI, 120, .inl td)), (a4, .inl (cI, 24, .inl su)), (a5, .inl (cI, 24, .inl gr))] (fun (r : Int32) (w : va_W) => r = mk (ix j q t) ∧ w = [(a0, .inr (7, [.ref a1, .ref a2, .ref a3, .ref a4, .ref a5, .int (nI P), .int (sz + (mkI v - mkI (mk (ix j q t))))])), (a1, .inl (cI, 480, .inl (upd mk (ix j q t) v))), (a2, .inl (cI, 20, .inl (wp_h (upd mk (ix j q t) v) P t hd 4))), (a3, .inl (cI, 120, .inl (wp_t (upd mk (ix j q t) v) (wp_h (upd mk (ix j q t) v) P t hd 4) t td P))), (a4, .inl (cI, 24, .inl (sm (wp_t (upd mk (ix j q t) v) (wp_h (upd mk (ix j q t) v) P t hd 4) t td P) su P))), (a5, .inl (cI, 24, .inl (grF (sm (wp_t (upd mk (ix j q t) v) (wp_h (upd mk (ix j q t) v) P t hd 4) t td P) su P) P gr)))]) 0 0 := by
  refine e_M (Qf := fun A => va_Qi (fun (r : Int32) (w : va_W) => r = mk (ix j q t) ∧ w = [(a0, .inr (7, [.ref a1, .ref a2, .ref a3, .ref a4, .ref a5, .int (nI P), .int (sz + (mkI v - mkI (mk (ix j q t))))])), (a1, .inl (cI, 480, .inl (upd mk (ix j q t) v))), (a2, .inl (cI, 20, .inl (wp_h (upd mk (ix j q t) v) P t hd 4))), (a3, .inl (cI, 120, .inl (wp_t (upd mk (ix j q t) v) (wp_h (upd mk (ix j q t) v) P t hd 4) t td P))), (a4, .inl (cI, 24, .inl (sm (wp_t (upd mk (ix j q t) v) (wp_h (upd mk (ix j q t) v) P t hd 4) t td P) su P))), (a5, .inl (cI, 24, .inl (grF (sm (wp_t (upd mk (ix j q t) v) (wp_h (upd mk (ix j q t) v) P t hd 4) t td P) su P) P gr)))]) (Bw D A) A) (cc := cX7_put) (maxL := 7) (ret := (some .int)) (by decide) rfl (Nat.le_of_ble_eq_true rfl) ?_
  intro p e s m args below meth c ls A Q H locs hx hb hr hml hts hown hlk hnm hc hw hl hQ
  have hl : lv_has ls 7 [(0, .ref a0), (1, .int (nI j)), (2, .int (nI q)), (3, .int (nI t)), (4, .int v)] := hl
  have in_7 : ∀ w ∈ u_ws RX7 TX7 7, w ∈ wsX7_put := fun _ h => List.mem_cons_of_mem _ (List.mem_append_right _ h)
  have lk_0 := hts (.fieldLink RX7 9 "PloughingMatch$Sheet" "marks" "[I") (List.mem_of_getElem? (i := 1) rfl)
  have lk_1 := hts (.fieldLink RX7 31 "PloughingMatch$Sheet" "size" "I") (List.mem_of_getElem? (i := 2) rfl)
  refine lv_iload_n hx hb dX7_put_0 rfl (lv_at hl 1 rfl) ?_
  refine lv_iload_n hx hb dX7_put_1 rfl (lv_at hl 2 rfl) ?_
  refine lv_iload_n hx hb dX7_put_2 rfl (lv_at hl 3 rfl) ?_
  refine k_i (wr := [(a0, .inr (7, [.ref a1, .ref a2, .ref a3, .ref a4, .ref a5, .int (nI P), .int sz])), (a1, .inl (cI, 480, .inl mk)), (a2, .inl (cI, 20, .inl hd)), (a3, .inl (cI, 120, .inl td)), (a4, .inl (cI, 24, .inl su)), (a5, .inl (cI, 24, .inl gr))]) (j_S ⟨hx, hb, hml, hown, hts⟩ (c_X7_placeOf l D cI cZ cB cJ b0 adK adV j q t H.size) (va_cwS 3 hts gX7_put_X7_placeOf rfl rfl rfl (by decide +kernel) ⟨by decide, by decide⟩) hc hw [] rfl rfl rfl hl.1 rfl (Nat.le_of_ble_eq_true rfl) dX7_put_3 ⟨by decide, by decide⟩) hc hw [] [0, 1, 2, 3, 4, 5] rfl rfl (by decide) (by decide) (fun r w H locs hq hw => ?_)
  obtain ⟨rfl, rfl⟩ := hq
  have hw : Wd D A s H locs [(a0, .inr (7, [.ref a1, .ref a2, .ref a3, .ref a4, .ref a5, .int (nI P), .int sz])), (a1, .inl (cI, 480, .inl mk)), (a2, .inl (cI, 20, .inl hd)), (a3, .inl (cI, 120, .inl td)), (a4, .inl (cI, 24, .inl su)), (a5, .inl (cI, 24, .inl gr))] := hw
  refine lv_istore (lv' := [(5, .int (nI (ix j q t))), (0, .ref a0), (1, .int (nI j)), (2, .int (nI q)), (3, .int (nI t)), (4, .int v)]) hx hb dX7_put_6 hl (by decide) rfl (fun ls hl => ?_)
  refine lv_aload_n hx hb dX7_put_8 rfl (lv_at hl 1 rfl) ?_
  refine w_get (C := RX7) (T := TX7) (N := 7) (ci := 7) hx hb hts in_7 hown hc hw 0 0 rfl rfl (by decide) lk_0 rfl dX7_put_9 ?_
  refine lv_iload hx hb dX7_put_12 (lv_at hl 0 rfl) ?_
  refine w_iald hx hb hc hw 1 rfl rfl (i := ix j q t) (ix_lt (by omega) (by omega) (by omega)) (by decide) dX7_put_14 ?_
  refine lv_istore (lv' := [(6, .int (mk (ix j q t))), (5, .int (nI (ix j q t))), (0, .ref a0), (1, .int (nI j)), (2, .int (nI q)), (3, .int (nI t)), (4, .int v)]) hx hb dX7_put_15 hl (by decide) rfl (fun ls hl => ?_)
  refine lv_aload_n hx hb dX7_put_17 rfl (lv_at hl 2 rfl) ?_
  refine w_get (C := RX7) (T := TX7) (N := 7) (ci := 7) hx hb hts in_7 hown hc hw 0 0 rfl rfl (by decide) lk_0 rfl dX7_put_18 ?_
  refine lv_iload hx hb dX7_put_21 (lv_at hl 1 rfl) ?_
  refine lv_iload hx hb dX7_put_23 (lv_at hl 6 rfl) ?_
  refine w_iast (ws1 := [(a0, .inr (7, [.ref a1, .ref a2, .ref a3, .ref a4, .ref a5, .int (nI P), .int sz])), (a1, .inl (cI, 480, .inl (upd mk (ix j q t) v))), (a2, .inl (cI, 20, .inl hd)), (a3, .inl (cI, 120, .inl td)), (a4, .inl (cI, 24, .inl su)), (a5, .inl (cI, 24, .inl gr))]) hx hb hc hw 1 rfl rfl (i := ix j q t) (ix_lt (by omega) (by omega) (by omega)) (by decide) rfl dX7_put_25 (fun H locs hw => ?_)
  refine lv_aload_n hx hb dX7_put_26 rfl (lv_at hl 2 rfl) ?_
  refine lv_dup hx hb dX7_put_27 rfl ?_
  refine w_get (C := RX7) (T := TX7) (N := 7) (ci := 7) hx hb hts in_7 hown hc hw 0 6 rfl rfl (by decide) lk_1 rfl dX7_put_28 ?_
  refine lv_iload hx hb dX7_put_31 (lv_at hl 6 rfl) ?_
  refine lv_iconst (v := (-1)) hx hb dX7_put_33 (by decide) ?_
  refine lv_icmp_ne (tgt := 41) hx hb dX7_put_34 (by decide) (fun c_1 => ?_) (fun c_1 => ?_)
  · skip
    refine lv_iconst (v := nI 1) hx hb dX7_put_41 (by decide) ?_
    refine lv_iload hx hb dX7_put_42 (lv_at hl 0 rfl) ?_
    refine lv_iconst (v := (-1)) hx hb dX7_put_44 (by decide) ?_
    refine lv_icmp_ne (tgt := 52) hx hb dX7_put_45 (by decide) (fun c_2 => ?_) (fun c_2 => ?_)
    · skip
      refine lv_iconst (v := nI 1) hx hb dX7_put_52 (by decide) ?_
      refine lv_isub hx hb dX7_put_53 ?_
      refine wn_top (y := mkI v - mkI (mk (ix j q t))) (by simp [mkI, *]) ?_
      refine lv_iadd hx hb dX7_put_54 ?_
      refine w_put (C := RX7) (T := TX7) (N := 7) (ci := 7) (v := .int (sz + (mkI v - mkI (mk (ix j q t))))) (ws1 := [(a0, .inr (7, [.ref a1, .ref a2, .ref a3, .ref a4, .ref a5, .int (nI P), .int (sz + (mkI v - mkI (mk (ix j q t))))])), (a1, .inl (cI, 480, .inl (upd mk (ix j q t) v))), (a2, .inl (cI, 20, .inl hd)), (a3, .inl (cI, 120, .inl td)), (a4, .inl (cI, 24, .inl su)), (a5, .inl (cI, 24, .inl gr))]) hx hb hts in_7 tyX7 tyX7_ok nmX7 hown hc hw 0 6 rfl rfl (by decide) lk_1 rfl rfl rfl (Nat.le_of_ble_eq_true rfl) rfl dX7_put_55 (fun H locs hw => ?_)
      refine lv_aload_n hx hb dX7_put_58 rfl (lv_at hl 2 rfl) ?_
      refine lv_iload_n hx hb dX7_put_59 rfl (lv_at hl 5 rfl) ?_
      refine k_v (wr := []) (j_V ⟨hx, hb, hml, hown, hts⟩ (c_X7_workOutPart l D cI cZ cB cJ b0 adK adV a0 a1 a2 a3 a4 a5 (upd mk (ix j q t) v) hd td su gr P (sz + (mkI v - mkI (mk (ix j q t)))) t (by omega) (by omega) H.size) (cwV 1 hts gX7_put_X7_workOutPart rfl rfl rfl (by decide +kernel) ⟨by decide, by decide⟩) hc hw [0, 1, 2, 3, 4, 5] rfl rfl 7 0 rfl rfl rfl rfl hl.1 rfl (Nat.le_of_ble_eq_true rfl) dX7_put_60 ⟨by decide, by decide⟩) hc hw [0, 1, 2, 3, 4, 5] [] rfl rfl (by decide) (by decide) (fun  w H locs hq hw => ?_)
      subst hq
      have hw : Wd D A s H locs [(a0, .inr (7, [.ref a1, .ref a2, .ref a3, .ref a4, .ref a5, .int (nI P), .int (sz + (mkI v - mkI (mk (ix j q t))))])), (a1, .inl (cI, 480, .inl (upd mk (ix j q t) v))), (a2, .inl (cI, 20, .inl (wp_h (upd mk (ix j q t) v) P t hd 4))), (a3, .inl (cI, 120, .inl (wp_t (upd mk (ix j q t) v) (wp_h (upd mk (ix j q t) v) P t hd 4) t td P))), (a4, .inl (cI, 24, .inl su)), (a5, .inl (cI, 24, .inl gr))] := hw
      refine lv_aload_n hx hb dX7_put_63 rfl (lv_at hl 2 rfl) ?_
      refine k_v (wr := []) (j_V ⟨hx, hb, hml, hown, hts⟩ (c_X7_workOutSums l D cI cZ cB cJ b0 adK adV a0 a1 a2 a3 a4 a5 (upd mk (ix j q t) v) (wp_h (upd mk (ix j q t) v) P t hd 4) (wp_t (upd mk (ix j q t) v) (wp_h (upd mk (ix j q t) v) P t hd 4) t td P) su gr P (sz + (mkI v - mkI (mk (ix j q t)))) (by omega) H.size) (cwV 0 hts gX7_put_X7_workOutSums rfl rfl rfl (by decide +kernel) ⟨by decide, by decide⟩) hc hw [0, 1, 2, 3, 4, 5] rfl rfl 7 0 rfl rfl rfl rfl hl.1 rfl (Nat.le_of_ble_eq_true rfl) dX7_put_64 ⟨by decide, by decide⟩) hc hw [0, 1, 2, 3, 4, 5] [] rfl rfl (by decide) (by decide) (fun  w H locs hq hw => ?_)
      subst hq
      have hw : Wd D A s H locs [(a0, .inr (7, [.ref a1, .ref a2, .ref a3, .ref a4, .ref a5, .int (nI P), .int (sz + (mkI v - mkI (mk (ix j q t))))])), (a1, .inl (cI, 480, .inl (upd mk (ix j q t) v))), (a2, .inl (cI, 20, .inl (wp_h (upd mk (ix j q t) v) P t hd 4))), (a3, .inl (cI, 120, .inl (wp_t (upd mk (ix j q t) v) (wp_h (upd mk (ix j q t) v) P t hd 4) t td P))), (a4, .inl (cI, 24, .inl (sm (wp_t (upd mk (ix j q t) v) (wp_h (upd mk (ix j q t) v) P t hd 4) t td P) su P))), (a5, .inl (cI, 24, .inl gr))] := hw
      refine lv_aload_n hx hb dX7_put_67 rfl (lv_at hl 2 rfl) ?_
      refine k_v (wr := []) (j_V ⟨hx, hb, hml, hown, hts⟩ (c_X7_workOutGrounds l D cI cZ cB cJ b0 adK adV a0 a1 a2 a3 a4 a5 (upd mk (ix j q t) v) (wp_h (upd mk (ix j q t) v) P t hd 4) (wp_t (upd mk (ix j q t) v) (wp_h (upd mk (ix j q t) v) P t hd 4) t td P) (sm (wp_t (upd mk (ix j q t) v) (wp_h (upd mk (ix j q t) v) P t hd 4) t td P) su P) gr P (sz + (mkI v - mkI (mk (ix j q t)))) (by omega) H.size) (cwV 0 hts gX7_put_X7_workOutGrounds rfl rfl rfl (by decide +kernel) ⟨by decide, by decide⟩) hc hw [0, 1, 2, 3, 4, 5] rfl rfl 7 0 rfl rfl rfl rfl hl.1 rfl (Nat.le_of_ble_eq_true rfl) dX7_put_68 ⟨by decide, by decide⟩) hc hw [0, 1, 2, 3, 4, 5] [] rfl rfl (by decide) (by decide) (fun  w H locs hq hw => ?_)
      subst hq
      have hw : Wd D A s H locs [(a0, .inr (7, [.ref a1, .ref a2, .ref a3, .ref a4, .ref a5, .int (nI P), .int (sz + (mkI v - mkI (mk (ix j q t))))])), (a1, .inl (cI, 480, .inl (upd mk (ix j q t) v))), (a2, .inl (cI, 20, .inl (wp_h (upd mk (ix j q t) v) P t hd 4))), (a3, .inl (cI, 120, .inl (wp_t (upd mk (ix j q t) v) (wp_h (upd mk (ix j q t) v) P t hd 4) t td P))), (a4, .inl (cI, 24, .inl (sm (wp_t (upd mk (ix j q t) v) (wp_h (upd mk (ix j q t) v) P t hd 4) t td P) su P))), (a5, .inl (cI, 24, .inl (grF (sm (wp_t (upd mk (ix j q t) v) (wp_h (upd mk (ix j q t) v) P t hd 4) t td P) su P) P gr)))] := hw
      refine lv_iload hx hb dX7_put_71 (lv_at hl 0 rfl) ?_
      subst hQ
      exact r_i hx hb hr rfl hlk hw ⟨rfl, rfl⟩ dX7_put_73
    · skip
      refine lv_iconst (v := nI 0) hx hb dX7_put_48 (by decide) ?_
      refine lv_goto (tgt := 53) hx hb dX7_put_49 (by decide) ?_
      refine lv_isub hx hb dX7_put_53 ?_
      refine wn_top (y := mkI v - mkI (mk (ix j q t))) (by simp [mkI, *]) ?_
      refine lv_iadd hx hb dX7_put_54 ?_
      refine w_put (C := RX7) (T := TX7) (N := 7) (ci := 7) (v := .int (sz + (mkI v - mkI (mk (ix j q t))))) (ws1 := [(a0, .inr (7, [.ref a1, .ref a2, .ref a3, .ref a4, .ref a5, .int (nI P), .int (sz + (mkI v - mkI (mk (ix j q t))))])), (a1, .inl (cI, 480, .inl (upd mk (ix j q t) v))), (a2, .inl (cI, 20, .inl hd)), (a3, .inl (cI, 120, .inl td)), (a4, .inl (cI, 24, .inl su)), (a5, .inl (cI, 24, .inl gr))]) hx hb hts in_7 tyX7 tyX7_ok nmX7 hown hc hw 0 6 rfl rfl (by decide) lk_1 rfl rfl rfl (Nat.le_of_ble_eq_true rfl) rfl dX7_put_55 (fun H locs hw => ?_)
      refine lv_aload_n hx hb dX7_put_58 rfl (lv_at hl 2 rfl) ?_
      refine lv_iload_n hx hb dX7_put_59 rfl (lv_at hl 5 rfl) ?_
      refine k_v (wr := []) (j_V ⟨hx, hb, hml, hown, hts⟩ (c_X7_workOutPart l D cI cZ cB cJ b0 adK adV a0 a1 a2 a3 a4 a5 (upd mk (ix j q t) v) hd td su gr P (sz + (mkI v - mkI (mk (ix j q t)))) t (by omega) (by omega) H.size) (cwV 1 hts gX7_put_X7_workOutPart rfl rfl rfl (by decide +kernel) ⟨by decide, by decide⟩) hc hw [0, 1, 2, 3, 4, 5] rfl rfl 7 0 rfl rfl rfl rfl hl.1 rfl (Nat.le_of_ble_eq_true rfl) dX7_put_60 ⟨by decide, by decide⟩) hc hw [0, 1, 2, 3, 4, 5] [] rfl rfl (by decide) (by decide) (fun  w H locs hq hw => ?_)
      subst hq
      have hw : Wd D A s H locs [(a0, .inr (7, [.ref a1, .ref a2, .ref a3, .ref a4, .ref a5, .int (nI P), .int (sz + (mkI v - mkI (mk (ix j q t))))])), (a1, .inl (cI, 480, .inl (upd mk (ix j q t) v))), (a2, .inl (cI, 20, .inl (wp_h (upd mk (ix j q t) v) P t hd 4))), (a3, .inl (cI, 120, .inl (wp_t (upd mk (ix j q t) v) (wp_h (upd mk (ix j q t) v) P t hd 4) t td P))), (a4, .inl (cI, 24, .inl su)), (a5, .inl (cI, 24, .inl gr))] := hw
      refine lv_aload_n hx hb dX7_put_63 rfl (lv_at hl 2 rfl) ?_
      refine k_v (wr := []) (j_V ⟨hx, hb, hml, hown, hts⟩ (c_X7_workOutSums l D cI cZ cB cJ b0 adK adV a0 a1 a2 a3 a4 a5 (upd mk (ix j q t) v) (wp_h (upd mk (ix j q t) v) P t hd 4) (wp_t (upd mk (ix j q t) v) (wp_h (upd mk (ix j q t) v) P t hd 4) t td P) su gr P (sz + (mkI v - mkI (mk (ix j q t)))) (by omega) H.size) (cwV 0 hts gX7_put_X7_workOutSums rfl rfl rfl (by decide +kernel) ⟨by decide, by decide⟩) hc hw [0, 1, 2, 3, 4, 5] rfl rfl 7 0 rfl rfl rfl rfl hl.1 rfl (Nat.le_of_ble_eq_true rfl) dX7_put_64 ⟨by decide, by decide⟩) hc hw [0, 1, 2, 3, 4, 5] [] rfl rfl (by decide) (by decide) (fun  w H locs hq hw => ?_)
      subst hq
      have hw : Wd D A s H locs [(a0, .inr (7, [.ref a1, .ref a2, .ref a3, .ref a4, .ref a5, .int (nI P), .int (sz + (mkI v - mkI (mk (ix j q t))))])), (a1, .inl (cI, 480, .inl (upd mk (ix j q t) v))), (a2, .inl (cI, 20, .inl (wp_h (upd mk (ix j q t) v) P t hd 4))), (a3, .inl (cI, 120, .inl (wp_t (upd mk (ix j q t) v) (wp_h (upd mk (ix j q t) v) P t hd 4) t td P))), (a4, .inl (cI, 24, .inl (sm (wp_t (upd mk (ix j q t) v) (wp_h (upd mk (ix j q t) v) P t hd 4) t td P) su P))), (a5, .inl (cI, 24, .inl gr))] := hw
      refine lv_aload_n hx hb dX7_put_67 rfl (lv_at hl 2 rfl) ?_
      refine k_v (wr := []) (j_V ⟨hx, hb, hml, hown, hts⟩ (c_X7_workOutGrounds l D cI cZ cB cJ b0 adK adV a0 a1 a2 a3 a4 a5 (upd mk (ix j q t) v) (wp_h (upd mk (ix j q t) v) P t hd 4) (wp_t (upd mk (ix j q t) v) (wp_h (upd mk (ix j q t) v) P t hd 4) t td P) (sm (wp_t (upd mk (ix j q t) v) (wp_h (upd mk (ix j q t) v) P t hd 4) t td P) su P) gr P (sz + (mkI v - mkI (mk (ix j q t)))) (by omega) H.size) (cwV 0 hts gX7_put_X7_workOutGrounds rfl rfl rfl (by decide +kernel) ⟨by decide, by decide⟩) hc hw [0, 1, 2, 3, 4, 5] rfl rfl 7 0 rfl rfl rfl rfl hl.1 rfl (Nat.le_of_ble_eq_true rfl) dX7_put_68 ⟨by decide, by decide⟩) hc hw [0, 1, 2, 3, 4, 5] [] rfl rfl (by decide) (by decide) (fun  w H locs hq hw => ?_)
      subst hq
      have hw : Wd D A s H locs [(a0, .inr (7, [.ref a1, .ref a2, .ref a3, .ref a4, .ref a5, .int (nI P), .int (sz + (mkI v - mkI (mk (ix j q t))))])), (a1, .inl (cI, 480, .inl (upd mk (ix j q t) v))), (a2, .inl (cI, 20, .inl (wp_h (upd mk (ix j q t) v) P t hd 4))), (a3, .inl (cI, 120, .inl (wp_t (upd mk (ix j q t) v) (wp_h (upd mk (ix j q t) v) P t hd 4) t td P))), (a4, .inl (cI, 24, .inl (sm (wp_t (upd mk (ix j q t) v) (wp_h (upd mk (ix j q t) v) P t hd 4) t td P) su P))), (a5, .inl (cI, 24, .inl (grF (sm (wp_t (upd mk (ix j q t) v) (wp_h (upd mk (ix j q t) v) P t hd 4) t td P) su P) P gr)))] := hw
      refine lv_iload hx hb dX7_put_71 (lv_at hl 0 rfl) ?_
      subst hQ
      exact r_i hx hb hr rfl hlk hw ⟨rfl, rfl⟩ dX7_put_73
  · skip
    refine lv_iconst (v := nI 0) hx hb dX7_put_37 (by decide) ?_
    refine lv_goto (tgt := 42) hx hb dX7_put_38 (by decide) ?_
    refine lv_iload hx hb dX7_put_42 (lv_at hl 0 rfl) ?_
    refine lv_iconst (v := (-1)) hx hb dX7_put_44 (by decide) ?_
    refine lv_icmp_ne (tgt := 52) hx hb dX7_put_45 (by decide) (fun c_3 => ?_) (fun c_3 => ?_)
    · skip
      refine lv_iconst (v := nI 1) hx hb dX7_put_52 (by decide) ?_
      refine lv_isub hx hb dX7_put_53 ?_
      refine wn_top (y := mkI v - mkI (mk (ix j q t))) (by simp [mkI, *]) ?_
      refine lv_iadd hx hb dX7_put_54 ?_
      refine w_put (C := RX7) (T := TX7) (N := 7) (ci := 7) (v := .int (sz + (mkI v - mkI (mk (ix j q t))))) (ws1 := [(a0, .inr (7, [.ref a1, .ref a2, .ref a3, .ref a4, .ref a5, .int (nI P), .int (sz + (mkI v - mkI (mk (ix j q t))))])), (a1, .inl (cI, 480, .inl (upd mk (ix j q t) v))), (a2, .inl (cI, 20, .inl hd)), (a3, .inl (cI, 120, .inl td)), (a4, .inl (cI, 24, .inl su)), (a5, .inl (cI, 24, .inl gr))]) hx hb hts in_7 tyX7 tyX7_ok nmX7 hown hc hw 0 6 rfl rfl (by decide) lk_1 rfl rfl rfl (Nat.le_of_ble_eq_true rfl) rfl dX7_put_55 (fun H locs hw => ?_)
      refine lv_aload_n hx hb dX7_put_58 rfl (lv_at hl 2 rfl) ?_
      refine lv_iload_n hx hb dX7_put_59 rfl (lv_at hl 5 rfl) ?_
      refine k_v (wr := []) (j_V ⟨hx, hb, hml, hown, hts⟩ (c_X7_workOutPart l D cI cZ cB cJ b0 adK adV a0 a1 a2 a3 a4 a5 (upd mk (ix j q t) v) hd td su gr P (sz + (mkI v - mkI (mk (ix j q t)))) t (by omega) (by omega) H.size) (cwV 1 hts gX7_put_X7_workOutPart rfl rfl rfl (by decide +kernel) ⟨by decide, by decide⟩) hc hw [0, 1, 2, 3, 4, 5] rfl rfl 7 0 rfl rfl rfl rfl hl.1 rfl (Nat.le_of_ble_eq_true rfl) dX7_put_60 ⟨by decide, by decide⟩) hc hw [0, 1, 2, 3, 4, 5] [] rfl rfl (by decide) (by decide) (fun  w H locs hq hw => ?_)
      subst hq
      have hw : Wd D A s H locs [(a0, .inr (7, [.ref a1, .ref a2, .ref a3, .ref a4, .ref a5, .int (nI P), .int (sz + (mkI v - mkI (mk (ix j q t))))])), (a1, .inl (cI, 480, .inl (upd mk (ix j q t) v))), (a2, .inl (cI, 20, .inl (wp_h (upd mk (ix j q t) v) P t hd 4))), (a3, .inl (cI, 120, .inl (wp_t (upd mk (ix j q t) v) (wp_h (upd mk (ix j q t) v) P t hd 4) t td P))), (a4, .inl (cI, 24, .inl su)), (a5, .inl (cI, 24, .inl gr))] := hw
      refine lv_aload_n hx hb dX7_put_63 rfl (lv_at hl 2 rfl) ?_
      refine k_v (wr := []) (j_V ⟨hx, hb, hml, hown, hts⟩ (c_X7_workOutSums l D cI cZ cB cJ b0 adK adV a0 a1 a2 a3 a4 a5 (upd mk (ix j q t) v) (wp_h (upd mk (ix j q t) v) P t hd 4) (wp_t (upd mk (ix j q t) v) (wp_h (upd mk (ix j q t) v) P t hd 4) t td P) su gr P (sz + (mkI v - mkI (mk (ix j q t)))) (by omega) H.size) (cwV 0 hts gX7_put_X7_workOutSums rfl rfl rfl (by decide +kernel) ⟨by decide, by decide⟩) hc hw [0, 1, 2, 3, 4, 5] rfl rfl 7 0 rfl rfl rfl rfl hl.1 rfl (Nat.le_of_ble_eq_true rfl) dX7_put_64 ⟨by decide, by decide⟩) hc hw [0, 1, 2, 3, 4, 5] [] rfl rfl (by decide) (by decide) (fun  w H locs hq hw => ?_)
      subst hq
      have hw : Wd D A s H locs [(a0, .inr (7, [.ref a1, .ref a2, .ref a3, .ref a4, .ref a5, .int (nI P), .int (sz + (mkI v - mkI (mk (ix j q t))))])), (a1, .inl (cI, 480, .inl (upd mk (ix j q t) v))), (a2, .inl (cI, 20, .inl (wp_h (upd mk (ix j q t) v) P t hd 4))), (a3, .inl (cI, 120, .inl (wp_t (upd mk (ix j q t) v) (wp_h (upd mk (ix j q t) v) P t hd 4) t td P))), (a4, .inl (cI, 24, .inl (sm (wp_t (upd mk (ix j q t) v) (wp_h (upd mk (ix j q t) v) P t hd 4) t td P) su P))), (a5, .inl (cI, 24, .inl gr))] := hw
      refine lv_aload_n hx hb dX7_put_67 rfl (lv_at hl 2 rfl) ?_
      refine k_v (wr := []) (j_V ⟨hx, hb, hml, hown, hts⟩ (c_X7_workOutGrounds l D cI cZ cB cJ b0 adK adV a0 a1 a2 a3 a4 a5 (upd mk (ix j q t) v) (wp_h (upd mk (ix j q t) v) P t hd 4) (wp_t (upd mk (ix j q t) v) (wp_h (upd mk (ix j q t) v) P t hd 4) t td P) (sm (wp_t (upd mk (ix j q t) v) (wp_h (upd mk (ix j q t) v) P t hd 4) t td P) su P) gr P (sz + (mkI v - mkI (mk (ix j q t)))) (by omega) H.size) (cwV 0 hts gX7_put_X7_workOutGrounds rfl rfl rfl (by decide +kernel) ⟨by decide, by decide⟩) hc hw [0, 1, 2, 3, 4, 5] rfl rfl 7 0 rfl rfl rfl rfl hl.1 rfl (Nat.le_of_ble_eq_true rfl) dX7_put_68 ⟨by decide, by decide⟩) hc hw [0, 1, 2, 3, 4, 5] [] rfl rfl (by decide) (by decide) (fun  w H locs hq hw => ?_)
      subst hq
      have hw : Wd D A s H locs [(a0, .inr (7, [.ref a1, .ref a2, .ref a3, .ref a4, .ref a5, .int (nI P), .int (sz + (mkI v - mkI (mk (ix j q t))))])), (a1, .inl (cI, 480, .inl (upd mk (ix j q t) v))), (a2, .inl (cI, 20, .inl (wp_h (upd mk (ix j q t) v) P t hd 4))), (a3, .inl (cI, 120, .inl (wp_t (upd mk (ix j q t) v) (wp_h (upd mk (ix j q t) v) P t hd 4) t td P))), (a4, .inl (cI, 24, .inl (sm (wp_t (upd mk (ix j q t) v) (wp_h (upd mk (ix j q t) v) P t hd 4) t td P) su P))), (a5, .inl (cI, 24, .inl (grF (sm (wp_t (upd mk (ix j q t) v) (wp_h (upd mk (ix j q t) v) P t hd 4) t td P) su P) P gr)))] := hw
      refine lv_iload hx hb dX7_put_71 (lv_at hl 0 rfl) ?_
      subst hQ
      exact r_i hx hb hr rfl hlk hw ⟨rfl, rfl⟩ dX7_put_73
    · skip
      refine lv_iconst (v := nI 0) hx hb dX7_put_48 (by decide) ?_
      refine lv_goto (tgt := 53) hx hb dX7_put_49 (by decide) ?_
      refine lv_isub hx hb dX7_put_53 ?_
      refine wn_top (y := mkI v - mkI (mk (ix j q t))) (by simp [mkI, *]) ?_
      refine lv_iadd hx hb dX7_put_54 ?_
      refine w_put (C := RX7) (T := TX7) (N := 7) (ci := 7) (v := .int (sz + (mkI v - mkI (mk (ix j q t))))) (ws1 := [(a0, .inr (7, [.ref a1, .ref a2, .ref a3, .ref a4, .ref a5, .int (nI P), .int (sz + (mkI v - mkI (mk (ix j q t))))])), (a1, .inl (cI, 480, .inl (upd mk (ix j q t) v))), (a2, .inl (cI, 20, .inl hd)), (a3, .inl (cI, 120, .inl td)), (a4, .inl (cI, 24, .inl su)), (a5, .inl (cI, 24, .inl gr))]) hx hb hts in_7 tyX7 tyX7_ok nmX7 hown hc hw 0 6 rfl rfl (by decide) lk_1 rfl rfl rfl (Nat.le_of_ble_eq_true rfl) rfl dX7_put_55 (fun H locs hw => ?_)
      refine lv_aload_n hx hb dX7_put_58 rfl (lv_at hl 2 rfl) ?_
      refine lv_iload_n hx hb dX7_put_59 rfl (lv_at hl 5 rfl) ?_
      refine k_v (wr := []) (j_V ⟨hx, hb, hml, hown, hts⟩ (c_X7_workOutPart l D cI cZ cB cJ b0 adK adV a0 a1 a2 a3 a4 a5 (upd mk (ix j q t) v) hd td su gr P (sz + (mkI v - mkI (mk (ix j q t)))) t (by omega) (by omega) H.size) (cwV 1 hts gX7_put_X7_workOutPart rfl rfl rfl (by decide +kernel) ⟨by decide, by decide⟩) hc hw [0, 1, 2, 3, 4, 5] rfl rfl 7 0 rfl rfl rfl rfl hl.1 rfl (Nat.le_of_ble_eq_true rfl) dX7_put_60 ⟨by decide, by decide⟩) hc hw [0, 1, 2, 3, 4, 5] [] rfl rfl (by decide) (by decide) (fun  w H locs hq hw => ?_)
      subst hq
      have hw : Wd D A s H locs [(a0, .inr (7, [.ref a1, .ref a2, .ref a3, .ref a4, .ref a5, .int (nI P), .int (sz + (mkI v - mkI (mk (ix j q t))))])), (a1, .inl (cI, 480, .inl (upd mk (ix j q t) v))), (a2, .inl (cI, 20, .inl (wp_h (upd mk (ix j q t) v) P t hd 4))), (a3, .inl (cI, 120, .inl (wp_t (upd mk (ix j q t) v) (wp_h (upd mk (ix j q t) v) P t hd 4) t td P))), (a4, .inl (cI, 24, .inl su)), (a5, .inl (cI, 24, .inl gr))] := hw
      refine lv_aload_n hx hb dX7_put_63 rfl (lv_at hl 2 rfl) ?_
      refine k_v (wr := []) (j_V ⟨hx, hb, hml, hown, hts⟩ (c_X7_workOutSums l D cI cZ cB cJ b0 adK adV a0 a1 a2 a3 a4 a5 (upd mk (ix j q t) v) (wp_h (upd mk (ix j q t) v) P t hd 4) (wp_t (upd mk (ix j q t) v) (wp_h (upd mk (ix j q t) v) P t hd 4) t td P) su gr P (sz + (mkI v - mkI (mk (ix j q t)))) (by omega) H.size) (cwV 0 hts gX7_put_X7_workOutSums rfl rfl rfl (by decide +kernel) ⟨by decide, by decide⟩) hc hw [0, 1, 2, 3, 4, 5] rfl rfl 7 0 rfl rfl rfl rfl hl.1 rfl (Nat.le_of_ble_eq_true rfl) dX7_put_64 ⟨by decide, by decide⟩) hc hw [0, 1, 2, 3, 4, 5] [] rfl rfl (by decide) (by decide) (fun  w H locs hq hw => ?_)
      subst hq
      have hw : Wd D A s H locs [(a0, .inr (7, [.ref a1, .ref a2, .ref a3, .ref a4, .ref a5, .int (nI P), .int (sz + (mkI v - mkI (mk (ix j q t))))])), (a1, .inl (cI, 480, .inl (upd mk (ix j q t) v))), (a2, .inl (cI, 20, .inl (wp_h (upd mk (ix j q t) v) P t hd 4))), (a3, .inl (cI, 120, .inl (wp_t (upd mk (ix j q t) v) (wp_h (upd mk (ix j q t) v) P t hd 4) t td P))), (a4, .inl (cI, 24, .inl (sm (wp_t (upd mk (ix j q t) v) (wp_h (upd mk (ix j q t) v) P t hd 4) t td P) su P))), (a5, .inl (cI, 24, .inl gr))] := hw
      refine lv_aload_n hx hb dX7_put_67 rfl (lv_at hl 2 rfl) ?_
      refine k_v (wr := []) (j_V ⟨hx, hb, hml, hown, hts⟩ (c_X7_workOutGrounds l D cI cZ cB cJ b0 adK adV a0 a1 a2 a3 a4 a5 (upd mk (ix j q t) v) (wp_h (upd mk (ix j q t) v) P t hd 4) (wp_t (upd mk (ix j q t) v) (wp_h (upd mk (ix j q t) v) P t hd 4) t td P) (sm (wp_t (upd mk (ix j q t) v) (wp_h (upd mk (ix j q t) v) P t hd 4) t td P) su P) gr P (sz + (mkI v - mkI (mk (ix j q t)))) (by omega) H.size) (cwV 0 hts gX7_put_X7_workOutGrounds rfl rfl rfl (by decide +kernel) ⟨by decide, by decide⟩) hc hw [0, 1, 2, 3, 4, 5] rfl rfl 7 0 rfl rfl rfl rfl hl.1 rfl (Nat.le_of_ble_eq_true rfl) dX7_put_68 ⟨by decide, by decide⟩) hc hw [0, 1, 2, 3, 4, 5] [] rfl rfl (by decide) (by decide) (fun  w H locs hq hw => ?_)
      subst hq
      have hw : Wd D A s H locs [(a0, .inr (7, [.ref a1, .ref a2, .ref a3, .ref a4, .ref a5, .int (nI P), .int (sz + (mkI v - mkI (mk (ix j q t))))])), (a1, .inl (cI, 480, .inl (upd mk (ix j q t) v))), (a2, .inl (cI, 20, .inl (wp_h (upd mk (ix j q t) v) P t hd 4))), (a3, .inl (cI, 120, .inl (wp_t (upd mk (ix j q t) v) (wp_h (upd mk (ix j q t) v) P t hd 4) t td P))), (a4, .inl (cI, 24, .inl (sm (wp_t (upd mk (ix j q t) v) (wp_h (upd mk (ix j q t) v) P t hd 4) t td P) su P))), (a5, .inl (cI, 24, .inl (grF (sm (wp_t (upd mk (ix j q t) v) (wp_h (upd mk (ix j q t) v) P t hd 4) t td P) su P) P gr)))] := hw
      refine lv_iload hx hb dX7_put_71 (lv_at hl 0 rfl) ?_
      subst hQ
      exact r_i hx hb hr rfl hlk hw ⟨rfl, rfl⟩ dX7_put_73
