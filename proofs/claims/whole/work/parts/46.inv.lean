/-! the law's loop: what holds between the calls -/
section PRS
variable {b : Nat → Nat} {L : Nat}
theorem prs_ok : ∀ f (acc : List (Nat × Bool)) a, a ≤ L → (∀ q ∈ acc, q.1 ≤ 8) → ∀ acc', (prs b L f acc a).1 = some acc' → acc'.length ≤ acc.length + f ∧ ∀ q ∈ acc', q.1 ≤ 8
  | 0, acc, a, _, _, acc', h => by simp [prs] at h
  | f + 1, acc, a, ha, hq, acc', h => by
    simp only [prs] at h
    cases hk : prK b L a with
    | none => rw [hk] at h; simp at h
    | some q0 =>
      obtain ⟨q, a1⟩ := q0
      rw [hk] at h
      dsimp only at h
      obtain ⟨h1, h2, h3⟩ := prK_le ha hk
      have hq2 : ∀ q' ∈ acc ++ [q], q'.1 ≤ 8 := by
        intro q' hm
        rcases List.mem_append.mp hm with h4 | h4
        · exact hq q' h4
        · rw [List.mem_singleton.mp h4]; exact h3
      by_cases c1 : L ≤ skB b L a1
      · rw [if_pos c1] at h
        cases h
        refine ⟨by simp, hq2⟩
      · rw [if_neg c1] at h
        by_cases c2 : b (skB b L a1) = 44 ∧ f ≠ 0
        · rw [if_pos c2] at h
          obtain ⟨h5, h6⟩ := prs_ok f (acc ++ [q]) (skB b L a1 + 1) (by omega) hq2 acc' h
          refine ⟨?_, h6⟩
          rw [List.length_append] at h5
          simp at h5
          omega
        · rw [if_neg c2] at h; simp at h
end PRS
theorem tp4_lt {f : Nat → Nat} {n : Nat} {x : Int32} (h : ∀ k, f k < 256) : ∀ k, tp4 f n x k < 256 := by
  intro k
  have a := tp_n_lt x 24
  have b := tp_n_lt x 16
  have c := tp_n_lt x 8
  have d := tp_n_lt x 0
  have e := h k
  simp only [tp4, va_up]
  split
  · exact d
  · split
    · exact c
    · split
      · exact b
      · split
        · exact a
        · exact e
theorem tp20_lt {f : Nat → Nat} {n : Nat} {x1 x2 x3 x4 x5 : Int32} (h : ∀ k, f k < 256) : ∀ k, tp20 f n x1 x2 x3 x4 x5 k < 256 := tp4_lt (tp4_lt (tp4_lt (tp4_lt (tp4_lt h))))
/-- class and reference between two calls; j calls are made -/
def INV (j dy nn n P tn nk ln : Nat) (dr : Bool) (pb pp cb : Nat → Nat) (mk hd td su gr : Nat → Int32) (sz : Int32) (mi : Nat → Int32) (al : Int32) (bt : Nat → Nat) (ms : Nat → Nat) (up : Nat → Bool) (msm : Nat → Nat) (dnm : Nat → Bool) (ld lc lm kn : Nat → Int32) (sb : Bool) (mh mt mu : Nat → Int32) : Prop :=
  dy ≤ 1000 * j ∧ nn ≤ 30 ∧ n ≤ 24 ∧ tn ≤ 100 ∧ nk ≤ 6 ∧ ln ≤ 600 ∧ (dr = true → P = n ∧ 1 ≤ n ∧ DR n pb pp) ∧ (dr = false → P = 0 ∧ S0 mk hd td su gr) ∧ (∀ x, x < n → cb x < 10) ∧ (∀ k, mk k < 0 → mk k = -1) ∧ (sb = true → SC mk P mh mt mu) ∧ SH mk P hd td su gr ∧ sz = nI (ct_m mk 480) ∧
  (∀ k, 0 ≤ mi k ∧ mi k ≤ nI 600) ∧ (0 ≤ al ∧ al ≤ nI 600) ∧ (∀ k, bt k < 256) ∧ (∀ k, k < nk → ms k ≤ 8 ∧ msm k = ms k ∧ dnm k = !up k) ∧ LD ld ln dy ∧ KNW lc ld lm kn ln dy
section ORD
variable {n P nk : Nat} {pb : Nat → Nat} {mk hd td su gr mi of_ ag : Nat → Int32} {al : Int32} {ms msm : Nat → Nat} {up dnm : Nat → Bool}
/-- the reference's order of two PLOUGHMEN -/
abbrev AHm (mk : Nat → Int32) (P : Nat) (ag : Nat → Int32) (pb : Nat → Nat) (mi of_ : Nat → Int32) (al : Int32) (msm : Nat → Nat) (dnm : Nat → Bool) (nk : Nat) : Nat → Nat → Bool :=
  fun a b => aha (fun z => vlC mk P ag pb mi of_ al a (msm z)) (fun z => vlC mk P ag pb mi of_ al b (msm z)) (fun z => !dnm z) a b nk 0
theorem AH_bt (hS : SH mk P hd td su gr) (hpb : ∀ x, x < n → pb x < P) (hk : ∀ k, k < nk → ms k ≤ 8 ∧ msm k = ms k ∧ dnm k = !up k) : ∀ a b, b < a → a < n → btF ag pb su gr td mi of_ al ms up nk a b = AHm mk P ag pb mi of_ al msm dnm nk a b := by
  intro a b hab ha
  unfold AHm btF
  rw [aha_bts (by omega)]
  refine bts_cong nk 0 (fun i _ hi => ?_)
  obtain ⟨h1, h2, h3⟩ := hk i (by omega)
  rw [h2, h3, Bool.not_not]
  exact ⟨vl_eq hS (hpb a ha) h1, vl_eq hS (hpb b (by omega)) h1, rfl⟩
theorem AH_rk_in {kd : Nat → Int32} {kind : Int32} {o : Nat → Nat} {k : Nat} (hn : n ≤ 24) (hS : SH mk P hd td su gr) (hpb : ∀ x, x < n → pb x < P) (hk : ∀ k, k < nk → ms k ≤ 8 ∧ msm k = ms k ∧ dnm k = !up k) (hkn : k < arrN kd kind n) :
    rkO (AHm mk P ag pb mi of_ al msm dnm nk) kd kind (nI k) n n 0 = some (arrO (btF ag pb su gr td mi of_ al ms up nk) kd kind o n k) :=
  rk_in hn (AH_bt hS hpb hk) (fun a b _ _ h => aha_tot h nk 0) (fun a b c _ _ _ h1 h2 => aha_trn nk 0 h1 h2) (fun a => aha_irr nk 0) hkn
theorem AH_rk_out {kd : Nat → Int32} {kind kk : Int32} (hS : SH mk P hd td su gr) (hpb : ∀ x, x < n → pb x < P) (hk : ∀ k, k < nk → ms k ≤ 8 ∧ msm k = ms k ∧ dnm k = !up k) (hkk : ∀ i, i < arrN kd kind n → nI i ≠ kk) :
    rkO (AHm mk P ag pb mi of_ al msm dnm nk) kd kind kk n n 0 = none :=
  rk_out (AH_bt hS hpb hk) (fun a b _ _ h => aha_tot h nk 0) (fun a b c _ _ _ h1 h2 => aha_trn nk 0 h1 h2) (fun a => aha_irr nk 0) (fun x => x) hkk
end ORD
section LWS
variable {p : Program} {l : Launch} {e : Env} {R : Room} {s : State} {m : MethodId} {args : Array Value} {below : List Frame} {meth : Method} {c : Code} {H : Heap} {locs : List Loc} {cells slots : Nat} {Q : State → Prop}
variable {cc : ByteArray} {pc : Nat} {ls : Array Slot} {rest : List Value} {D : va_G} {tys : List (ClassId × FieldType)} {b0 : Nat} {adK adV : Nat → Nat} {A : Nat → Prop} {ws wc : va_W}
theorem w_sld (hx : p.tables.exec = Jvm.exec) (hb : c.code = cc) {b L : Nat} {xs : Nat → Int32} (hX : va_X b L xs s s.heap) (hbl : b < s.heap.size) (hbA : ¬ A b) (hw : Wd D A s H locs ws) {i : Nat} (hi : i < L) (hL : L < 2 ^ 31) {v : Int32} (hv : xs i = v) (hdg : decode cc pc = .ok (.iaload, 1))
    (kk : W p l e R s m args below meth c H locs cells slots Q (F0 m (pc + 1) ls (.int v :: rest))) : W p l e R s m args below meth c H locs cells slots Q (F0 m pc ls (.int (nI i) :: .ref b :: rest)) :=
  va_sld hx hb hX hbl hbA hw.2.2 (vp_in_nI hi hL) hdg (by rw [nI_clamp (Nat.lt_trans hi hL), hv]; exact kk)
theorem j_SW {y : MethodName} {bytes : ByteArray} {maxL nL mc ms n index : Nat} {ret : Option FieldType} {hh : List (Nat × Nat × Nat × Nat)} {wl Ts : List Cond} {rm : Room} {Qc : Array Value → State → Outcome → State → Prop} {free : Addr → Prop} {own : String} {As st0 : List Value}
    (S : CallFix p m c cc nL s args Ts own) (hM : Met l y wl rm (Pq D tys b0 adK adV As wc H.size) Qc mc ms free) (cw : vx_CSW R s args own index y bytes maxL ret hh wl rm mc ms n) (hc : Cx D tys b0 adK adV A s) (hw : Wd D A s H locs ws) (isC : List Nat) (hnC : va_nd isC = true) (hC : isC.map (fun i => ws[i]?) = wc.map some)
    (hn : As.length = n) (hsize : ls.size = nL) (hst : st0 = As.reverse ++ rest) (hW : (rest.map fun v => v.category).sum ≤ 8) (hdg : decode cc pc = .ok (.invokestatic index, 3)) (hf : cells + mc ≤ R.cells ∧ slots + ms ≤ R.slots) :
    va_Run p l e R s m args below meth c H locs cells slots mc ms (F0 m pc ls st0) rest (Qc As.toArray) free :=
  vx_runSW S hM cw ⟨pq_blind, cx_pre hc hw isC hnC hC _⟩ rfl hn hsize hst (lv_room hW) hdg hf
end LWS
theorem P24 {n P : Nat} {dr : Bool} {X Y : Prop} (i3 : n ≤ 24) (i7 : dr = true → P = n ∧ X) (i8 : dr = false → P = 0 ∧ Y) : P ≤ 24 := by
  cases dr with
  | true => have := (i7 rfl).1; omega
  | false => have := (i8 rfl).1; omega
theorem P_pl {n P : Nat} {dr : Bool} {X Y : Prop} (i7 : dr = true → P = n ∧ X) (i8 : dr = false → P = 0 ∧ Y) : pl dr n = P := by
  cases dr with
  | true => rw [(i7 rfl).1]; rfl
  | false => rw [(i8 rfl).1]; rfl
theorem v_neg {v : Int32} (h1 : (-1) ≤ v) (h2 : v < 0) : v = -1 := by
  apply Int32.toInt_inj.mp
  rw [Int32.le_iff_toInt_le] at h1
  rw [Int32.lt_iff_toInt_lt] at h2
  have a : (-1 : Int32).toInt = -1 := by decide
  have b : (0 : Int32).toInt = 0 := by decide
  omega
theorem no_ix {w : Int32} {N : Nat} (h : ¬ (0 ≤ w ∧ w ≤ nI N)) (hN : N < 2 ^ 31) : ∀ i, i ≤ N → ¬ w = nI i := by
  intro i hi e
  apply h
  rw [e]
  exact ⟨nI_pos' (by omega), (nI_leI (by omega) hN).mpr hi⟩
theorem no_ix2 {w : Int32} {N : Nat} (h : 0 ≤ w ∧ w ≤ nI N) (hN : N < 2 ^ 31) : ∃ i, i ≤ N ∧ w = nI i := by
  obtain ⟨k, hk, rfl⟩ := nI_of (x := w) (i32_nlt.mpr h.1)
  exact ⟨k, (nI_leI hk hN).mp h.2, rfl⟩
theorem isM_no {v : Int32} (h : ¬ (0 ≤ v ∧ v ≤ nI 600)) : isM v = false := by
  cases e : isM v with
  | false => rfl
  | true =>
    simp only [isM, Bool.and_eq_true, decide_eq_true_eq] at e
    exact absurd e h
theorem lw_fit {a b : Nat} (h1 : a ≤ 1088) (h2 : b ≤ 14048) : a ≤ room_1.cells ∧ b ≤ room_1.slots := ⟨h1, h2⟩
