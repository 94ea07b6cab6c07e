def bk_known (cl dy df : Nat → Int32) (club day : Int32) : Nat → Int32
  | 0 => 0
  | k + 1 => bk_known cl dy df club day k + (if cl k = club ∧ dy k ≤ day then df k else 0)
/-- what a club's points differ by -/
def bk_g (pts kn : Nat → Int32) (c : Nat) : Int32 := pts c - kn c
/-- how many lines there are when the first clubs are through -/
def bk_n (g : Nat → Int32) (n : Nat) : Nat → Nat
  | 0 => n
  | c + 1 => if g c = 0 then bk_n g n c else bk_n g n c + 1
/-- a row of the book when the first clubs are through -/
def bk_f (g : Nat → Int32) (n : Nat) (v f : Nat → Int32) : Nat → Nat → Int32
  | 0 => f
  | c + 1 => if g c = 0 then bk_f g n v f c else upd (bk_f g n v f c) (bk_n g n c) (v c)
def bk_fill (pts kn : Nat → Int32) (c : Nat) : Nat → Int32 := fun k => if k < c then pts k else kn k
theorem bk_n_add (g : Nat → Int32) (n : Nat) : ∀ c, bk_n g n c = n + bk_n g 0 c
  | 0 => rfl
  | c + 1 => by
    have ih := bk_n_add g n c
    simp only [bk_n]
    split <;> omega
theorem bk_n_le (g : Nat → Int32) (n : Nat) : ∀ c, n ≤ bk_n g n c ∧ bk_n g n c ≤ n + c
  | 0 => by simp [bk_n]
  | c + 1 => by
    have ih := bk_n_le g n c
    simp only [bk_n]
    split <;> omega
theorem bk_n_mono (g : Nat → Int32) (n c : Nat) : ∀ d, bk_n g n c ≤ bk_n g n (c + d)
  | 0 => Nat.le_refl _
  | d + 1 => by
    have ih := bk_n_mono g n c d
    rw [← Nat.add_assoc]
    simp only [bk_n]
    split <;> omega
theorem i32_sub0 {a b : Int32} : a - b = 0 ↔ a = b := by
  constructor
  · intro h
    have : a - b + b = 0 + b := by rw [h]
    simpa using this
  · intro h; rw [h]; simp
theorem bk_n_lt {g : Nat → Int32} {n k : Nat} (hk : k < 10) (h : ¬ g k = 0) : bk_n g n k < bk_n g n 10 := by
  have h1 := bk_n_mono g n (k + 1) (9 - k)
  rw [show k + 1 + (9 - k) = 10 by omega] at h1
  have h2 : bk_n g n (k + 1) = bk_n g n k + 1 := by simp [bk_n, h]
  omega
theorem bk_fill_1 (pts kn : Nat → Int32) (k : Nat) : upd (bk_fill pts kn k) k (pts k) = bk_fill pts kn (k + 1) := by
  funext z
  simp only [upd, bk_fill]
  by_cases h : z = k
  · subst h; simp
  · by_cases h2 : z < k
    · simp [h, h2, show z < k + 1 by omega]
    · simp [h, h2, show ¬ z < k + 1 by omega]
theorem bk_fill_2 {pts kn : Nat → Int32} {k : Nat} (h : pts k - kn k = 0) : bk_fill pts kn k = bk_fill pts kn (k + 1) := by
  have h1 := i32_sub0.mp h
  funext z
  simp only [bk_fill]
  by_cases h : z = k
  · subst h; simp [h1]
  · by_cases h2 : z < k
    · simp [h2, show z < k + 1 by omega]
    · simp [h2, show ¬ z < k + 1 by omega]
theorem bk_g0 {pts kn : Nat → Int32} {c : Nat} : bk_g pts kn c = 0 ↔ pts c = kn c := i32_sub0
def rm_c_X0_size : Room := { frames := 0, cells := 0, slots := 0, locals := 0 }
set_option maxHeartbeats 4000000 in
set_option maxRecDepth 100000 in
theorem c_X0_size (l : Launch) (D : va_G) (cI cZ cB cJ : ClassId) (b0 : Nat) (adK adV : Nat → Nat) (a0 a1 a2 a3 a4 : Nat) (dy : Nat → Int32) (cl : Nat → Int32) (df : Nat → Int32) (kn : Nat → Int32) (n : Nat) (hn : n ≤ 600) : Mi l yX0_size wsX0_size rm_c_X0_size D (TYs cI cZ cB cJ) b0 adK adV [.ref a0] [(a0, .inr (0, [.ref a1, .ref a2, .ref a3, .ref a4, .int (nI n)])), (a1, .inl (cI, 600, .inl dy)), (a2, .inl (cI, 600, .inl cl)), (a3, .inl (cI, 600, .inl df)), (a4, .inl (cI, 10, .inl kn))] (fun (r : Int32) (w : va_W) => r = nI n ∧ w = [(a0, .inr (0, [.ref a1, .ref a2, .ref a3, .ref a4, .int (nI n)])), (a1, .inl (cI, 600, .inl dy)), (a2, .inl (cI, 600, .inl cl)), (a3, .inl (cI, 600, .inl df)), (a4, .inl (cI, 10, .inl kn))]) 0 0 := by
  refine e_M (Qf := fun A => va_Qi (fun (r : Int32) (w : va_W) => r = nI n ∧ w = [(a0, .inr (0, [.ref a1, .ref a2, .ref a3, .ref a4, .int (nI n)])), (a1, .inl (cI, 600, .inl dy)), (a2, .inl (cI, 600, .inl cl)), (a3, .inl (cI, 600, .inl df)), (a4, .inl (cI, 10, .inl kn))]) (Bw D A) A) (cc := cX0_size) (maxL := 1) (ret := (some .int)) (by decide) rfl (Nat.le_of_ble_eq_true rfl) ?_
  intro p e s m args below meth c ls A Q H locs hx hb hr hml hts hown hlk hnm hc hw hl hQ
  have hl : lv_has ls 1 [(0, .ref a0)] := hl
  have in_0 : ∀ w ∈ u_ws RX0 TX0 5, w ∈ wsX0_size := fun _ h => List.mem_cons_of_mem _ (List.mem_append_right _ h)
  have lk_0 := hts (.fieldLink RX0 24 "PloughingMatch$Book" "size" "I") (List.mem_of_getElem? (i := 1) rfl)
  refine lv_aload_n hx hb dX0_size_0 rfl (lv_at hl 0 rfl) ?_
  refine w_get (C := RX0) (T := TX0) (N := 5) (ci := 0) hx hb hts in_0 hown hc hw 0 4 rfl rfl (by decide) lk_0 rfl dX0_size_1 ?_
  subst hQ
  exact r_i hx hb hr rfl hlk hw ⟨rfl, rfl⟩ dX0_size_4
def rm_c_X0_dayAt : Room := { frames := 0, cells := 0, slots := 0, locals := 0 }
set_option maxHeartbeats 4000000 in
set_option maxRecDepth 100000 in
theorem c_X0_dayAt (l : Launch) (D : va_G) (cI cZ cB cJ : ClassId) (b0 : Nat) (adK adV : Nat → Nat) (a0 a1 a2 a3 a4 : Nat) (dy : Nat → Int32) (cl : Nat → Int32) (df : Nat → Int32) (kn : Nat → Int32) (n : Nat) (k : Nat) (hn : n ≤ 600) (hk : k < n) : Mi l yX0_dayAt wsX0_dayAt rm_c_X0_dayAt D (TYs cI cZ cB cJ) b0 adK adV [.ref a0, .int (nI k)] [(a0, .inr (0, [.ref a1, .ref a2, .ref a3, .ref a4, .int (nI n)])), (a1, .inl (cI, 600, .inl dy)), (a2, .inl (cI, 600, .inl cl)), (a3, .inl (cI, 600, .inl df)), (a4, .inl (cI, 10, .inl kn))] (fun (r : Int32) (w : va_W) => r = dy k ∧ w = [(a0, .inr (0, [.ref a1, .ref a2, .ref a3, .ref a4, .int (nI n)])), (a1, .inl (cI, 600, .inl dy)), (a2, .inl (cI, 600, .inl cl)), (a3, .inl (cI, 600, .inl df)), (a4, .inl (cI, 10, .inl kn))]) 0 0 := by
  refine e_M (Qf := fun A => va_Qi (fun (r : Int32) (w : va_W) => r = dy k ∧ w = [(a0, .inr (0, [.ref a1, .ref a2, .ref a3, .ref a4, .int (nI n)])), (a1, .inl (cI, 600, .inl dy)), (a2, .inl (cI, 600, .inl cl)), (a3, .inl (cI, 600, .inl df)), (a4, .inl (cI, 10, .inl kn))]) (Bw D A) A) (cc := cX0_dayAt) (maxL := 2) (ret := (some .int)) (by decide) rfl (Nat.le_of_ble_eq_true rfl) ?_
  intro p e s m args below meth c ls A Q H locs hx hb hr hml hts hown hlk hnm hc hw hl hQ
  have hl : lv_has ls 2 [(0, .ref a0), (1, .int (nI k))] := hl
  have in_0 : ∀ w ∈ u_ws RX0 TX0 5, w ∈ wsX0_dayAt := fun _ h => List.mem_cons_of_mem _ (List.mem_append_right _ h)
  have lk_0 := hts (.fieldLink RX0 9 "PloughingMatch$Book" "days" "[I") (List.mem_of_getElem? (i := 1) rfl)
  refine lv_aload_n hx hb dX0_dayAt_0 rfl (lv_at hl 0 rfl) ?_
  refine w_get (C := RX0) (T := TX0) (N := 5) (ci := 0) hx hb hts in_0 hown hc hw 0 0 rfl rfl (by decide) lk_0 rfl dX0_dayAt_1 ?_
  refine lv_iload_n hx hb dX0_dayAt_4 rfl (lv_at hl 1 rfl) ?_
  refine w_iald hx hb hc hw 1 rfl rfl (i := k) (by omega) (by decide) dX0_dayAt_5 ?_
  subst hQ
  exact r_i hx hb hr rfl hlk hw ⟨rfl, rfl⟩ dX0_dayAt_6
def rm_c_X0_clubAt : Room := { frames := 0, cells := 0, slots := 0, locals := 0 }
set_option maxHeartbeats 4000000 in
set_option maxRecDepth 100000 in
theorem c_X0_clubAt (l : Launch) (D : va_G) (cI cZ cB cJ : ClassId) (b0 : Nat) (adK adV : Nat → Nat) (a0 a1 a2 a3 a4 : Nat) (dy : Nat → Int32) (cl : Nat → Int32) (df : Nat → Int32) (kn : Nat → Int32) (n : Nat) (k : Nat) (hn : n ≤ 600) (hk : k < n) : Mi l yX0_clubAt wsX0_clubAt rm_c_X0_clubAt D (TYs cI cZ cB cJ) b0 adK adV [.ref a0, .int (nI k)] [(a0, .inr (0, [.ref a1, .ref a2, .ref a3, .ref a4, .int (nI n)])), (a1, .inl (cI, 600, .inl dy)), (a2, .inl (cI, 600, .inl cl)), (a3, .inl (cI, 600, .inl df)), (a4, .inl (cI, 10, .inl kn))] (fun (r : Int32) (w : va_W) => r = cl k ∧ w = [(a0, .inr (0, [.ref a1, .ref a2, .ref a3, .ref a4, .int (nI n)])), (a1, .inl (cI, 600, .inl dy)), (a2, .inl (cI, 600, .inl cl)), (a3, .inl (cI, 600, .inl df)), (a4, .inl (cI, 10, .inl kn))]) 0 0 := by
  refine e_M (Qf := fun A => va_Qi (fun (r : Int32) (w : va_W) => r = cl k ∧ w = [(a0, .inr (0, [.ref a1, .ref a2, .ref a3, .ref a4, .int (nI n)])), (a1, .inl (cI, 600, .inl dy)), (a2, .inl (cI, 600, .inl cl)), (a3, .inl (cI, 600, .inl df)), (a4, .inl (cI, 10, .inl kn))]) (Bw D A) A) (cc := cX0_clubAt) (maxL := 2) (ret := (some .int)) (by decide) rfl (Nat.le_of_ble_eq_true rfl) ?_
  intro p e s m args below meth c ls A Q H locs hx hb hr hml hts hown hlk hnm hc hw hl hQ
  have hl : lv_has ls 2 [(0, .ref a0), (1, .int (nI k))] := hl
  have in_0 : ∀ w ∈ u_ws RX0 TX0 5, w ∈ wsX0_clubAt := fun _ h => List.mem_cons_of_mem _ (List.mem_append_right _ h)
  have lk_0 := hts (.fieldLink RX0 15 "PloughingMatch$Book" "clubs" "[I") (List.mem_of_getElem? (i := 1) rfl)
  refine lv_aload_n hx hb dX0_clubAt_0 rfl (lv_at hl 0 rfl) ?_
  refine w_get (C := RX0) (T := TX0) (N := 5) (ci := 0) hx hb hts in_0 hown hc hw 0 1 rfl rfl (by decide) lk_0 rfl dX0_clubAt_1 ?_
  refine lv_iload_n hx hb dX0_clubAt_4 rfl (lv_at hl 1 rfl) ?_
  refine w_iald hx hb hc hw 2 rfl rfl (i := k) (by omega) (by decide) dX0_clubAt_5 ?_
  subst hQ
  exact r_i hx hb hr rfl hlk hw ⟨rfl, rfl⟩ dX0_clubAt_6
def rm_c_X0_differenceAt : Room := { frames := 0, cells := 0, slots := 0, locals := 0 }
set_option maxHeartbeats 4000000 in
set_option maxRecDepth 100000 in
theorem c_X0_differenceAt (l : Launch) (D : va_G) (cI cZ cB cJ : ClassId) (b0 : Nat) (adK adV : Nat → Nat) (a0 a1 a2 a3 a4 : Nat) (dy : Nat → Int32) (cl : Nat → Int32) (df : Nat → Int32) (kn : Nat → Int32) (n : Nat) (k : Nat) (hn : n ≤ 600) (hk : k < n) : Mi l yX0_differenceAt wsX0_differenceAt rm_c_X0_differenceAt D (TYs cI cZ cB cJ) b0 adK adV [.ref a0, .int (nI k)] [(a0, .inr (0, [.ref a1, .ref a2, .ref a3, .ref a4, .int (nI n)])), (a1, .inl (cI, 600, .inl dy)), (a2, .inl (cI, 600, .inl cl)), (a3, .inl (cI, 600, .inl df)), (a4, .inl (cI, 10, .inl kn))] (fun (r : Int32) (w : va_W) => r = df k ∧ w = [(a0, .inr (0, [.ref a1, .ref a2, .ref a3, .ref a4, .int (nI n)])), (a1, .inl (cI, 600, .inl dy)), (a2, .inl (cI, 600, .inl cl)), (a3, .inl (cI, 600, .inl df)), (a4, .inl (cI, 10, .inl kn))]) 0 0 := by
  refine e_M (Qf := fun A => va_Qi (fun (r : Int32) (w : va_W) => r = df k ∧ w = [(a0, .inr (0, [.ref a1, .ref a2, .ref a3, .ref a4, .int (nI n)])), (a1, .inl (cI, 600, .inl dy)), (a2, .inl (cI, 600, .inl cl)), (a3, .inl (cI, 600, .inl df)), (a4, .inl (cI, 10, .inl kn))]) (Bw D A) A) (cc := cX0_differenceAt) (maxL := 2) (ret := (some .int)) (by decide) rfl (Nat.le_of_ble_eq_true rfl) ?_
  intro p e s m args below meth c ls A Q H locs hx hb hr hml hts hown hlk hnm hc hw hl hQ
  have hl : lv_has ls 2 [(0, .ref a0), (1, .int (nI k))] := hl
  have in_0 : ∀ w ∈ u_ws RX0 TX0 5, w ∈ wsX0_differenceAt := fun _ h => List.mem_cons_of_mem _ (List.mem_append_right _ h)
  have lk_0 := hts (.fieldLink RX0 18 "PloughingMatch$Book" "differences" "[I") (List.mem_of_getElem? (i := 1) rfl)
  refine lv_aload_n hx hb dX0_differenceAt_0 rfl (lv_at hl 0 rfl) ?_
  refine w_get (C := RX0) (T := TX0) (N := 5) (ci := 0) hx hb hts in_0 hown hc hw 0 2 rfl rfl (by decide) lk_0 rfl dX0_differenceAt_1 ?_
  refine lv_iload_n hx hb dX0_differenceAt_4 rfl (lv_at hl 1 rfl) ?_
  refine w_iald hx hb hc hw 3 rfl rfl (i := k) (by omega) (by decide) dX0_differenceAt_5 ?_
  subst hQ
  exact r_i hx hb hr rfl hlk hw ⟨rfl, rfl⟩ dX0_differenceAt_6
def rm_c_X0_knownOf : Room := { frames := 0, cells := 0, slots := 0, locals := 0 }
set_option maxHeartbeats 4000000 in
set_option maxRecDepth 100000 in
theorem c_X0_knownOf (l : Launch) (D : va_G) (cI cZ cB cJ : ClassId) (b0 : Nat) (adK adV : Nat → Nat) (a0 a1 a2 a3 a4 : Nat) (dy : Nat → Int32) (cl : Nat → Int32) (df : Nat → Int32) (kn : Nat → Int32) (n : Nat) (club : Int32) (day : Int32) (hn : n ≤ 600) : Mi l yX0_knownOf wsX0_knownOf rm_c_X0_knownOf D (TYs cI cZ cB cJ) b0 adK adV [.ref a0, .int club, .int day] [(a0, .inr (0, [.ref a1, .ref a2, .ref a3, .ref a4, .int (nI n)])), (a1, .inl (cI, 600, .inl dy)), (a2, .inl (cI, 600, .inl cl)), (a3, .inl (cI, 600, .inl df)), (a4, .inl (cI, 10, .inl kn))] (fun (r : Int32) (w : va_W) => r = bk_known cl dy df club day n ∧ w = [(a0, .inr (0, [.ref a1, .ref a2, .ref a3, .ref a4, .int (nI n)])), (a1, .inl (cI, 600, .inl dy)), (a2, .inl (cI, 600, .inl cl)), (a3, .inl (cI, 600, .inl df)), (a4, .inl (cI, 10, .inl kn))]) 0 0 := by
  refine e_M (Qf := fun A => va_Qi (fun (r : Int32) (w : va_W) => r = bk_known cl dy df club day n ∧ w = [(a0, .inr (0, [.ref a1, .ref a2, .ref a3, .ref a4, .int (nI n)])), (a1, .inl (cI, 600, .inl dy)), (a2, .inl (cI, 600, .inl cl)), (a3, .inl (cI, 600, .inl df)), (a4, .inl (cI, 10, .inl kn))]) (Bw D A) A) (cc := cX0_knownOf) (maxL := 5) (ret := (some .int)) (by decide) rfl (Nat.le_of_ble_eq_true rfl) ?_
  intro p e s m args below meth c ls A Q H locs hx hb hr hml hts hown hlk hnm hc hw hl hQ
  have hl : lv_has ls 5 [(0, .ref a0), (1, .int club), (2, .int day)] := hl
  have in_0 : ∀ w ∈ u_ws RX0 TX0 5, w ∈ wsX0_knownOf := fun _ h => List.mem_cons_of_mem _ (List.mem_append_right _ h)
  have lk_0 := hts (.fieldLink RX0 24 "PloughingMatch$Book" "size" "I") (List.mem_of_getElem? (i := 1) rfl)
  have lk_1 := hts (.fieldLink RX0 15 "PloughingMatch$Book" "clubs" "[I") (List.mem_of_getElem? (i := 2) rfl)
  have lk_2 := hts (.fieldLink RX0 9 "PloughingMatch$Book" "days" "[I") (List.mem_of_getElem? (i := 3) rfl)
  have lk_3 := hts (.fieldLink RX0 18 "PloughingMatch$Book" "differences" "[I") (List.mem_of_getElem? (i := 4) rfl)
  refine lv_iconst (v := nI 0) hx hb dX0_knownOf_0 (by decide) ?_
  refine lv_istore_n (lv' := [(3, .int (nI 0)), (0, .ref a0), (1, .int club), (2, .int day)]) hx hb dX0_knownOf_1 rfl hl (by decide) rfl (fun ls hl => ?_)
  refine lv_iconst (v := nI 0) hx hb dX0_knownOf_2 (by decide) ?_
  refine lv_istore (lv' := [(4, .int (nI 0)), (3, .int (nI 0)), (0, .ref a0), (1, .int club), (2, .int day)]) hx hb dX0_knownOf_3 hl (by decide) rfl (fun ls hl => ?_)
  have key5 : ∀ (fuel : Nat) (k : Nat) (x3 : Int32), k ≤ n → x3 = bk_known cl dy df club day k → n - k < fuel → ∀ (H : Heap) (locs : List Loc) (ls : Array Slot), Wd D A s H locs [(a0, .inr (0, [.ref a1, .ref a2, .ref a3, .ref a4, .int (nI n)])), (a1, .inl (cI, 600, .inl dy)), (a2, .inl (cI, 600, .inl cl)), (a3, .inl (cI, 600, .inl df)), (a4, .inl (cI, 10, .inl kn))] → lv_has ls 5 [(0, .ref a0), (1, .int club), (2, .int day), (3, .int x3), (4, .int (nI k))] → W p l e rm_c_X0_knownOf s m args below meth c H locs 0 0 Q (F0 m 5 ls []) := by
    intro fuel
    induction fuel with
    | zero => intro k x3 hk e3 hfu; exact absurd hfu (Nat.not_lt_zero _)
    | succ fuel ih =>
      intro k x3 hk e3 hfu H locs ls hw hl
      have ih5 := ih
      refine lv_iload hx hb dX0_knownOf_5 (lv_at hl 4 rfl) ?_
      refine lv_aload_n hx hb dX0_knownOf_7 rfl (lv_at hl 0 rfl) ?_
      refine w_get (C := RX0) (T := TX0) (N := 5) (ci := 0) hx hb hts in_0 hown hc hw 0 4 rfl rfl (by decide) lk_0 rfl dX0_knownOf_8 ?_
      refine wb_icmp_ge (tgt := 52) hx hb (by omega) (by omega) dX0_knownOf_11 (by decide) (fun c_1 => ?_) (fun c_1 => ?_)
      · skip
        refine lv_iload_n hx hb dX0_knownOf_52 rfl (lv_at hl 3 rfl) ?_
        subst hQ
        exact r_i hx hb hr rfl hlk hw ⟨(by rw [e3, show k = n by omega]), rfl⟩ dX0_knownOf_53
      · skip
        refine lv_aload_n hx hb dX0_knownOf_14 rfl (lv_at hl 0 rfl) ?_
        refine w_get (C := RX0) (T := TX0) (N := 5) (ci := 0) hx hb hts in_0 hown hc hw 0 1 rfl rfl (by decide) lk_1 rfl dX0_knownOf_15 ?_
        refine lv_iload hx hb dX0_knownOf_18 (lv_at hl 4 rfl) ?_
        refine w_iald hx hb hc hw 2 rfl rfl (i := k) (by omega) (by decide) dX0_knownOf_20 ?_
        refine lv_iload_n hx hb dX0_knownOf_21 rfl (lv_at hl 1 rfl) ?_
        refine lv_icmp_ne (tgt := 46) hx hb dX0_knownOf_22 (by decide) (fun c_2 => ?_) (fun c_2 => ?_)
        · skip
          refine wn_iinc (a := k) (d := 1) (lv' := [(4, .int (nI (k + 1))), (0, .ref a0), (1, .int club), (2, .int day), (3, .int x3)]) hx hb dX0_knownOf_46 hl (k := 4) rfl (by decide) rfl (fun ls hl => ?_)
          refine lv_goto (tgt := 5) hx hb dX0_knownOf_49 (by decide) ?_
          exact ih5 (k + 1) x3 (by omega) (by simp [bk_known, e3, c_1, c_2]) (by omega) _ _ _ hw (lv_sub hl [1, 2, 3, 4, 0] rfl)
        · skip
          refine lv_aload_n hx hb dX0_knownOf_25 rfl (lv_at hl 0 rfl) ?_
          refine w_get (C := RX0) (T := TX0) (N := 5) (ci := 0) hx hb hts in_0 hown hc hw 0 0 rfl rfl (by decide) lk_2 rfl dX0_knownOf_26 ?_
          refine lv_iload hx hb dX0_knownOf_29 (lv_at hl 4 rfl) ?_
          refine w_iald hx hb hc hw 1 rfl rfl (i := k) (by omega) (by decide) dX0_knownOf_31 ?_
          refine lv_iload_n hx hb dX0_knownOf_32 rfl (lv_at hl 2 rfl) ?_
          refine lv_icmp_gt (tgt := 46) hx hb dX0_knownOf_33 (by decide) (fun c_3 => ?_) (fun c_3 => ?_)
          · skip
            have c_3' := i32_nle.mpr c_3
            refine wn_iinc (a := k) (d := 1) (lv' := [(4, .int (nI (k + 1))), (0, .ref a0), (1, .int club), (2, .int day), (3, .int x3)]) hx hb dX0_knownOf_46 hl (k := 4) rfl (by decide) rfl (fun ls hl => ?_)
            refine lv_goto (tgt := 5) hx hb dX0_knownOf_49 (by decide) ?_
            exact ih5 (k + 1) x3 (by omega) (by simp [bk_known, e3, c_1, c_2, c_3, c_3']) (by omega) _ _ _ hw (lv_sub hl [1, 2, 3, 4, 0] rfl)
          · skip
            have c_3' := i32_nlt.mp c_3
            refine lv_iload_n hx hb dX0_knownOf_36 rfl (lv_at hl 3 rfl) ?_
            refine lv_aload_n hx hb dX0_knownOf_37 rfl (lv_at hl 0 rfl) ?_
            refine w_get (C := RX0) (T := TX0) (N := 5) (ci := 0) hx hb hts in_0 hown hc hw 0 2 rfl rfl (by decide) lk_3 rfl dX0_knownOf_38 ?_
            refine lv_iload hx hb dX0_knownOf_41 (lv_at hl 4 rfl) ?_
            refine w_iald hx hb hc hw 3 rfl rfl (i := k) (by omega) (by decide) dX0_knownOf_43 ?_
            refine lv_iadd hx hb dX0_knownOf_44 ?_
            refine lv_istore_n (lv' := [(3, .int (x3 + (df k))), (0, .ref a0), (1, .int club), (2, .int day), (4, .int (nI k))]) hx hb dX0_knownOf_45 rfl hl (by decide) rfl (fun ls hl => ?_)
            refine wn_iinc (a := k) (d := 1) (lv' := [(4, .int (nI (k + 1))), (3, .int (x3 + (df k))), (0, .ref a0), (1, .int club), (2, .int day)]) hx hb dX0_knownOf_46 hl (k := 4) rfl (by decide) rfl (fun ls hl => ?_)
            refine lv_goto (tgt := 5) hx hb dX0_knownOf_49 (by decide) ?_
            exact ih5 (k + 1) (x3 + (df k)) (by omega) (by simp [bk_known, e3, c_1, c_2, c_3, c_3']) (by omega) _ _ _ hw (lv_sub hl [2, 3, 4, 1, 0] rfl)
  exact key5 (n - 0 + 1) 0 (nI 0) (by omega) nI_0 (Nat.lt_succ_self _) _ _ _ hw (lv_sub hl [2, 3, 4, 1, 0] rfl)
def rm_c_X0_linesDue : Room := { frames := 0, cells := 0, slots := 0, locals := 0 }
set_option maxHeartbeats 4000000 in
set_option maxRecDepth 100000 in
theorem c_X0_linesDue (l : Launch) (D : va_G) (cI cZ cB cJ : ClassId) (b0 : Nat) (adK adV : Nat → Nat) (a0 a1 a2 a3 a4 ap : Nat) (dy : Nat → Int32) (cl : Nat → Int32) (df : Nat → Int32) (kn : Nat → Int32) (n : Nat) (pts : Nat → Int32) : Mi l yX0_linesDue wsX0_linesDue rm_c_X0_linesDue D (TYs cI cZ cB cJ) b0 adK adV [.ref a0, .ref ap] [(a0, .inr (0, [.ref a1, .ref a2, .ref a3, .ref a4, .int (nI n)])), (a1, .inl (cI, 600, .inl dy)), (a2, .inl (cI, 600, .inl cl)), (a3, .inl (cI, 600, .inl df)), (a4, .inl (cI, 10, .inl kn)), (ap, .inl (cI, 10, .inl pts))] (fun (r : Int32) (w : va_W) => r = nI (bk_n (bk_g pts kn) 0 10) ∧ w = [(a0, .inr (0, [.ref a1, .ref a2, .ref a3, .ref a4, .int (nI n)])), (a1, .inl (cI, 600, .inl dy)), (a2, .inl (cI, 600, .inl cl)), (a3, .inl (cI, 600, .inl df)), (a4, .inl (cI, 10, .inl kn)), (ap, .inl (cI, 10, .inl pts))]) 0 0 := by
  refine e_M (Qf := fun A => va_Qi (fun (r : Int32) (w : va_W) => r = nI (bk_n (bk_g pts kn) 0 10) ∧ w = [(a0, .inr (0, [.ref a1, .ref a2, .ref a3, .ref a4, .int (nI n)])), (a1, .inl (cI, 600, .inl dy)), (a2, .inl (cI, 600, .inl cl)), (a3, .inl (cI, 600, .inl df)), (a4, .inl (cI, 10, .inl kn)), (ap, .inl (cI, 10, .inl pts))]) (Bw D A) A) (cc := cX0_linesDue) (maxL := 4) (ret := (some .int)) (by decide) rfl (Nat.le_of_ble_eq_true rfl) ?_
  intro p e s m args below meth c ls A Q H locs hx hb hr hml hts hown hlk hnm hc hw hl hQ
  have hl : lv_has ls 4 [(0, .ref a0), (1, .ref ap)] := hl
  have in_0 : ∀ w ∈ u_ws RX0 TX0 5, w ∈ wsX0_linesDue := fun _ h => List.mem_cons_of_mem _ (List.mem_append_right _ h)
  have lk_0 := hts (.fieldLink RX0 21 "PloughingMatch$Book" "knownByClub" "[I") (List.mem_of_getElem? (i := 1) rfl)
  refine lv_iconst (v := nI 0) hx hb dX0_linesDue_0 (by decide) ?_
  refine lv_istore_n (lv' := [(2, .int (nI 0)), (0, .ref a0), (1, .ref ap)]) hx hb dX0_linesDue_1 rfl hl (by decide) rfl (fun ls hl => ?_)
  refine lv_iconst (v := nI 0) hx hb dX0_linesDue_2 (by decide) ?_
  refine lv_istore_n (lv' := [(3, .int (nI 0)), (2, .int (nI 0)), (0, .ref a0), (1, .ref ap)]) hx hb dX0_linesDue_3 rfl hl (by decide) rfl (fun ls hl => ?_)
  have key4 : ∀ (fuel : Nat) (k : Nat) (d : Nat), k ≤ 10 → d = bk_n (bk_g pts kn) 0 k → 10 - k < fuel → ∀ (H : Heap) (locs : List Loc) (ls : Array Slot), Wd D A s H locs [(a0, .inr (0, [.ref a1, .ref a2, .ref a3, .ref a4, .int (nI n)])), (a1, .inl (cI, 600, .inl dy)), (a2, .inl (cI, 600, .inl cl)), (a3, .inl (cI, 600, .inl df)), (a4, .inl (cI, 10, .inl kn)), (ap, .inl (cI, 10, .inl pts))] → lv_has ls 4 [(0, .ref a0), (1, .ref ap), (2, .int (nI d)), (3, .int (nI k))] → W p l e rm_c_X0_linesDue s m args below meth c H locs 0 0 Q (F0 m 4 ls []) := by
    intro fuel
    induction fuel with
    | zero => intro k d hk e3 hfu; exact absurd hfu (Nat.not_lt_zero _)
    | succ fuel ih =>
      intro k d hk e3 hfu H locs ls hw hl
      have ih4 := ih
      refine lv_iload_n hx hb dX0_linesDue_4 rfl (lv_at hl 3 rfl) ?_
      refine lv_bipush (v := nI 10) hx hb dX0_linesDue_5 (by decide) ?_
      refine wb_icmp_ge (tgt := 31) hx hb (by omega) (by omega) dX0_linesDue_7 (by decide) (fun c_1 => ?_) (fun c_1 => ?_)
      · skip
        refine lv_iload_n hx hb dX0_linesDue_31 rfl (lv_at hl 2 rfl) ?_
        subst hQ
        exact r_i hx hb hr rfl hlk hw ⟨(by rw [e3, show k = 10 by omega]), rfl⟩ dX0_linesDue_32
      · skip
        refine lv_aload_n hx hb dX0_linesDue_10 rfl (lv_at hl 1 rfl) ?_
        refine lv_iload_n hx hb dX0_linesDue_11 rfl (lv_at hl 3 rfl) ?_
        refine w_iald hx hb hc hw 5 rfl rfl (i := k) (by omega) (by decide) dX0_linesDue_12 ?_
        refine lv_aload_n hx hb dX0_linesDue_13 rfl (lv_at hl 0 rfl) ?_
        refine w_get (C := RX0) (T := TX0) (N := 5) (ci := 0) hx hb hts in_0 hown hc hw 0 3 rfl rfl (by decide) lk_0 rfl dX0_linesDue_14 ?_
        refine lv_iload_n hx hb dX0_linesDue_17 rfl (lv_at hl 3 rfl) ?_
        refine w_iald hx hb hc hw 4 rfl rfl (i := k) (by omega) (by decide) dX0_linesDue_18 ?_
        refine lv_icmp_eq (tgt := 25) hx hb dX0_linesDue_19 (by decide) (fun c_2 => ?_) (fun c_2 => ?_)
        · skip
          refine wn_iinc (a := k) (d := 1) (lv' := [(3, .int (nI (k + 1))), (0, .ref a0), (1, .ref ap), (2, .int (nI d))]) hx hb dX0_linesDue_25 hl (k := 3) rfl (by decide) rfl (fun ls hl => ?_)
          refine lv_goto (tgt := 4) hx hb dX0_linesDue_28 (by decide) ?_
          exact ih4 (k + 1) d (by omega) (by simp [bk_n, bk_g0, e3, c_1, c_2]) (by omega) _ _ _ hw (lv_sub hl [1, 2, 3, 0] rfl)
        · skip
          refine wn_iinc (a := d) (d := 1) (lv' := [(2, .int (nI (d + 1))), (0, .ref a0), (1, .ref ap), (3, .int (nI k))]) hx hb dX0_linesDue_22 hl (k := 2) rfl (by decide) rfl (fun ls hl => ?_)
          refine wn_iinc (a := k) (d := 1) (lv' := [(3, .int (nI (k + 1))), (2, .int (nI (d + 1))), (0, .ref a0), (1, .ref ap)]) hx hb dX0_linesDue_25 hl (k := 3) rfl (by decide) rfl (fun ls hl => ?_)
          refine lv_goto (tgt := 4) hx hb dX0_linesDue_28 (by decide) ?_
          exact ih4 (k + 1) (d + 1) (by omega) (by simp [bk_n, bk_g0, e3, c_1, c_2]) (by omega) _ _ _ hw (lv_sub hl [2, 3, 1, 0] rfl)
  exact key4 (10 - 0 + 1) 0 0 (by omega) rfl (Nat.lt_succ_self _) _ _ _ hw (lv_sub hl [2, 3, 1, 0] rfl)
def rm_c_X0_write_full : Room := { frames := 1, cells := 0, slots := 0, locals := 23 }
set_option maxHeartbeats 4000000 in
set_option maxRecDepth 100000 in
theorem c_X0_write_full (l : Launch) (D : va_G) (cI cZ cB cJ : ClassId) (b0 : Nat) (adK adV : Nat → Nat) (a0 a1 a2 a3 a4 ap : Nat) (dy : Nat → Int32) (cl : Nat → Int32) (df : Nat → Int32) (kn : Nat → Int32) (n : Nat) (pts : Nat → Int32) (day : Int32) (hn : n ≤ 600) (hf : 600 < n + bk_n (bk_g pts kn) 0 10) : Mi l yX0_write wsX0_write rm_c_X0_write_full D (TYs cI cZ cB cJ) b0 adK adV [.ref a0, .int day, .ref ap] [(a0, .inr (0, [.ref a1, .ref a2, .ref a3, .ref a4, .int (nI n)])), (a1, .inl (cI, 600, .inl dy)), (a2, .inl (cI, 600, .inl cl)), (a3, .inl (cI, 600, .inl df)), (a4, .inl (cI, 10, .inl kn)), (ap, .inl (cI, 10, .inl pts))] (fun (r : Int32) (w : va_W) => r = (-2) ∧ w = [(a0, .inr (0, [.ref a1, .ref a2, .ref a3, .ref a4, .int (nI n)])), (a1, .inl (cI, 600, .inl dy)), (a2, .inl (cI, 600, .inl cl)), (a3, .inl (cI, 600, .inl df)), (a4, .inl (cI, 10, .inl kn)), (ap, .inl (cI, 10, .inl pts))]) 0 0 := by
  refine e_M (Qf := fun A => va_Qi (fun (r : Int32) (w : va_W) => r = (-2) ∧ w = [(a0, .inr (0, [.ref a1, .ref a2, .ref a3, .ref a4, .int (nI n)])), (a1, .inl (cI, 600, .inl dy)), (a2, .inl (cI, 600, .inl cl)), (a3, .inl (cI, 600, .inl df)), (a4, .inl (cI, 10, .inl kn)), (ap, .inl (cI, 10, .inl pts))]) (Bw D A) A) (cc := cX0_write) (maxL := 6) (ret := (some .int)) (by decide) rfl (Nat.le_of_ble_eq_true rfl) ?_
  intro p e s m args below meth c ls A Q H locs hx hb hr hml hts hown hlk hnm hc hw hl hQ
  have hl : lv_has ls 6 [(0, .ref a0), (1, .int day), (2, .ref ap)] := hl
  have in_0 : ∀ w ∈ u_ws RX0 TX0 5, w ∈ wsX0_write := fun _ h => List.mem_cons_of_mem _ (List.mem_append_right _ h)
  have lk_0 := hts (.fieldLink RX0 24 "PloughingMatch$Book" "size" "I") (List.mem_of_getElem? (i := 1) rfl)
  refine lv_aload_n hx hb dX0_write_0 rfl (lv_at hl 0 rfl) ?_
  refine lv_aload_n hx hb dX0_write_1 rfl (lv_at hl 2 rfl) ?_
  refine k_i (wr := []) (j_V ⟨hx, hb, hml, hown, hts⟩ (c_X0_linesDue l D cI cZ cB cJ b0 adK adV a0 a1 a2 a3 a4 ap dy cl df kn n pts H.size) (cwV 1 hts gX0_write_X0_linesDue rfl rfl rfl (by decide +kernel) ⟨by decide, by decide⟩) hc hw [0, 1, 2, 3, 4, 5] rfl rfl 0 0 rfl rfl rfl rfl hl.1 rfl (Nat.le_of_ble_eq_true rfl) dX0_write_2 ⟨by decide, by decide⟩) hc hw [0, 1, 2, 3, 4, 5] [] rfl rfl (by decide) (by decide) (fun r w H locs hq hw => ?_)
  obtain ⟨rfl, rfl⟩ := hq
  have hw : Wd D A s H locs [(a0, .inr (0, [.ref a1, .ref a2, .ref a3, .ref a4, .int (nI n)])), (a1, .inl (cI, 600, .inl dy)), (a2, .inl (cI, 600, .inl cl)), (a3, .inl (cI, 600, .inl df)), (a4, .inl (cI, 10, .inl kn)), (ap, .inl (cI, 10, .inl pts))] := hw
  refine lv_istore_n (lv' := [(3, .int (nI (bk_n (bk_g pts kn) 0 10))), (0, .ref a0), (1, .int day), (2, .ref ap)]) hx hb dX0_write_5 rfl hl (by decide) rfl (fun ls hl => ?_)
  refine lv_aload_n hx hb dX0_write_6 rfl (lv_at hl 1 rfl) ?_
  refine w_get (C := RX0) (T := TX0) (N := 5) (ci := 0) hx hb hts in_0 hown hc hw 0 4 rfl rfl (by decide) lk_0 rfl dX0_write_7 ?_
  refine lv_iload_n hx hb dX0_write_10 rfl (lv_at hl 0 rfl) ?_
  refine wn_iadd hx hb dX0_write_11 ?_
  refine lv_sipush (v := nI 600) hx hb dX0_write_12 (by decide) ?_
  refine wb_icmp_le (tgt := 21) hx hb (by have := bk_n_le (bk_g pts kn) 0 10; omega) (by omega) dX0_write_15 (by decide) (fun c_1 => ?_) (fun c_1 => ?_)
  · exact (by omega)
  · skip
    refine lv_bipush (v := (-2)) hx hb dX0_write_18 (by decide) ?_
    subst hQ
    exact r_i hx hb hr rfl hlk hw ⟨rfl, rfl⟩ dX0_write_20
def rm_c_X0_write : Room := { frames := 1, cells := 0, slots := 0, locals := 23 }
set_option maxHeartbeats 4000000 in
set_option maxRecDepth 100000 in
theorem c_X0_write (l : Launch) (D : va_G) (cI cZ cB cJ : ClassId) (b0 : Nat) (adK adV : Nat → Nat) (a0 a1 a2 a3 a4 ap : Nat) (dy : Nat → Int32) (cl : Nat → Int32) (df : Nat → Int32) (kn : Nat → Int32) (n : Nat) (pts : Nat → Int32) (day : Int32) (hn : n ≤ 600) (hf : n + bk_n (bk_g pts kn) 0 10 ≤ 600) : Mi l yX0_write wsX0_write rm_c_X0_write D (TYs cI cZ cB cJ) b0 adK adV [.ref a0, .int day, .ref ap] [(a0, .inr (0, [.ref a1, .ref a2, .ref a3, .ref a4, .int (nI n)])), (a1, .inl (cI, 600, .inl dy)), (a2, .inl (cI, 600, .inl cl)), (a3, .inl (cI, 600, .inl df)), (a4, .inl (cI, 10, .inl kn)), (ap, .inl (cI, 10, .inl pts))] (fun (r : Int32) (w : va_W) => r = nI (bk_n (bk_g pts kn) 0 10) ∧ w = [(a0, .inr (0, [.ref a1, .ref a2, .ref a3, .ref a4, .int (nI (bk_n (bk_g pts kn) n 10))])), (a1, .inl (cI, 600, .inl (bk_f (bk_g pts kn) n (fun _ => day) dy 10))), (a2, .inl (cI, 600, .inl (bk_f (bk_g pts kn) n (fun c => nI c) cl 10))), (a3, .inl (cI, 600, .inl (bk_f (bk_g pts kn) n (fun c => bk_g pts kn c) df 10))), (a4, .inl (cI, 10, .inl (bk_fill pts kn 10))), (ap, .inl (cI, 10, .inl pts))]) 0 0 := by
  refine e_M (Qf := fun A => va_Qi (fun (r : Int32) (w : va_W) => r = nI (bk_n (bk_g pts kn) 0 10) ∧ w = [(a0, .inr (0, [.ref a1, .ref a2, .ref a3, .ref a4, .int (nI (bk_n (bk_g pts kn) n 10))])), (a1, .inl (cI, 600, .inl (bk_f (bk_g pts kn) n (fun _ => day) dy 10))), (a2, .inl (cI, 600, .inl (bk_f (bk_g pts kn) n (fun c => nI c) cl 10))), (a3, .inl (cI, 600, .inl (bk_f (bk_g pts kn) n (fun c => bk_g pts kn c) df 10))), (a4, .inl (cI, 10, .inl (bk_fill pts kn 10))), (ap, .inl (cI, 10, .inl pts))]) (Bw D A) A) (cc := cX0_write) (maxL := 6) (ret := (some .int)) (by decide) rfl (Nat.le_of_ble_eq_true rfl) ?_
  intro p e s m args below meth c ls A Q H locs hx hb hr hml hts hown hlk hnm hc hw hl hQ
  have hl : lv_has ls 6 [(0, .ref a0), (1, .int day), (2, .ref ap)] := hl
  have in_0 : ∀ w ∈ u_ws RX0 TX0 5, w ∈ wsX0_write := fun _ h => List.mem_cons_of_mem _ (List.mem_append_right _ h)
  have lk_0 := hts (.fieldLink RX0 24 "PloughingMatch$Book" "size" "I") (List.mem_of_getElem? (i := 1) rfl)
  have lk_1 := hts (.fieldLink RX0 21 "PloughingMatch$Book" "knownByClub" "[I") (List.mem_of_getElem? (i := 2) rfl)
  have lk_2 := hts (.fieldLink RX0 9 "PloughingMatch$Book" "days" "[I") (List.mem_of_getElem? (i := 3) rfl)
  have lk_3 := hts (.fieldLink RX0 15 "PloughingMatch$Book" "clubs" "[I") (List.mem_of_getElem? (i := 4) rfl)
  have lk_4 := hts (.fieldLink RX0 18 "PloughingMatch$Book" "differences" "[I") (List.mem_of_getElem? (i := 5) rfl)
  refine lv_aload_n hx hb dX0_write_0 rfl (lv_at hl 0 rfl) ?_
  refine lv_aload_n hx hb dX0_write_1 rfl (lv_at hl 2 rfl) ?_
  refine k_i (wr := []) (j_V ⟨hx, hb, hml, hown, hts⟩ (c_X0_linesDue l D cI cZ cB cJ b0 adK adV a0 a1 a2 a3 a4 ap dy cl df kn n pts H.size) (cwV 1 hts gX0_write_X0_linesDue rfl rfl rfl (by decide +kernel) ⟨by decide, by decide⟩) hc hw [0, 1, 2, 3, 4, 5] rfl rfl 0 0 rfl rfl rfl rfl hl.1 rfl (Nat.le_of_ble_eq_true rfl) dX0_write_2 ⟨by decide, by decide⟩) hc hw [0, 1, 2, 3, 4, 5] [] rfl rfl (by decide) (by decide) (fun r w H locs hq hw => ?_)
  obtain ⟨rfl, rfl⟩ := hq
  have hw : Wd D A s H locs [(a0, .inr (0, [.ref a1, .ref a2, .ref a3, .ref a4, .int (nI n)])), (a1, .inl (cI, 600, .inl dy)), (a2, .inl (cI, 600, .inl cl)), (a3, .inl (cI, 600, .inl df)), (a4, .inl (cI, 10, .inl kn)), (ap, .inl (cI, 10, .inl pts))] := hw
  refine lv_istore_n (lv' := [(3, .int (nI (bk_n (bk_g pts kn) 0 10))), (0, .ref a0), (1, .int day), (2, .ref ap)]) hx hb dX0_write_5 rfl hl (by decide) rfl (fun ls hl => ?_)
  refine lv_aload_n hx hb dX0_write_6 rfl (lv_at hl 1 rfl) ?_
  refine w_get (C := RX0) (T := TX0) (N := 5) (ci := 0) hx hb hts in_0 hown hc hw 0 4 rfl rfl (by decide) lk_0 rfl dX0_write_7 ?_
  refine lv_iload_n hx hb dX0_write_10 rfl (lv_at hl 0 rfl) ?_
  refine wn_iadd hx hb dX0_write_11 ?_
  refine lv_sipush (v := nI 600) hx hb dX0_write_12 (by decide) ?_
  refine wb_icmp_le (tgt := 21) hx hb (by have := bk_n_le (bk_g pts kn) 0 10; omega) (by omega) dX0_write_15 (by decide) (fun c_1 => ?_) (fun c_1 => ?_)
  · skip
    refine lv_iconst (v := nI 0) hx hb dX0_write_21 (by decide) ?_
    refine lv_istore (lv' := [(4, .int (nI 0)), (3, .int (nI (bk_n (bk_g pts kn) 0 10))), (0, .ref a0), (1, .int day), (2, .ref ap)]) hx hb dX0_write_22 hl (by decide) rfl (fun ls hl => ?_)
    have key24 : ∀ (fuel : Nat) (k : Nat) (n1 : Nat) (dy1 : Nat → Int32) (cl1 : Nat → Int32) (df1 : Nat → Int32) (kn1 : Nat → Int32), k ≤ 10 → n1 = bk_n (bk_g pts kn) n k → dy1 = bk_f (bk_g pts kn) n (fun _ => day) dy k → cl1 = bk_f (bk_g pts kn) n (fun c => nI c) cl k → df1 = bk_f (bk_g pts kn) n (fun c => bk_g pts kn c) df k → kn1 = bk_fill pts kn k → 10 - k < fuel → ∀ (H : Heap) (locs : List Loc) (ls : Array Slot), Wd D A s H locs [(a0, .inr (0, [.ref a1, .ref a2, .ref a3, .ref a4, .int (nI n1)])), (a1, .inl (cI, 600, .inl dy1)), (a2, .inl (cI, 600, .inl cl1)), (a3, .inl (cI, 600, .inl df1)), (a4, .inl (cI, 10, .inl kn1)), (ap, .inl (cI, 10, .inl pts))] → lv_has ls 6 [(0, .ref a0), (1, .int day), (2, .ref ap), (3, .int (nI (bk_n (bk_g pts kn) 0 10))), (4, .int (nI k))] → W p l e rm_c_X0_write s m args below meth c H locs 0 0 Q (F0 m 24 ls []) := by
      intro fuel
      induction fuel with
      | zero => intro k n1 dy1 cl1 df1 kn1 hk en e1 e2 e3 e4 hfu; exact absurd hfu (Nat.not_lt_zero _)
      | succ fuel ih =>
        intro k n1 dy1 cl1 df1 kn1 hk en e1 e2 e3 e4 hfu H locs ls hw hl
        have ih24 := ih
        refine lv_iload hx hb dX0_write_24 (lv_at hl 4 rfl) ?_
        refine lv_bipush (v := nI 10) hx hb dX0_write_26 (by decide) ?_
        refine wb_icmp_ge (tgt := 109) hx hb (by omega) (by omega) dX0_write_28 (by decide) (fun c_2 => ?_) (fun c_2 => ?_)
        · skip
          refine lv_iload_n hx hb dX0_write_109 rfl (lv_at hl 3 rfl) ?_
          subst hQ
          exact r_i hx hb hr rfl hlk hw ⟨rfl, (by have hk10 : k = 10 := (by omega); subst hk10; rw [en, e1, e2, e3, e4])⟩ dX0_write_110
        · skip
          refine lv_aload_n hx hb dX0_write_31 rfl (lv_at hl 2 rfl) ?_
          refine lv_iload hx hb dX0_write_32 (lv_at hl 4 rfl) ?_
          refine w_iald hx hb hc hw 5 rfl rfl (i := k) (by omega) (by decide) dX0_write_34 ?_
          refine lv_aload_n hx hb dX0_write_35 rfl (lv_at hl 0 rfl) ?_
          refine w_get (C := RX0) (T := TX0) (N := 5) (ci := 0) hx hb hts in_0 hown hc hw 0 3 rfl rfl (by decide) lk_1 rfl dX0_write_36 ?_
          refine lv_iload hx hb dX0_write_39 (lv_at hl 4 rfl) ?_
          refine w_iald hx hb hc hw 4 rfl rfl (i := k) (by omega) (by decide) dX0_write_41 ?_
          refine lv_isub hx hb dX0_write_42 ?_
          refine wn_top (y := bk_g pts kn k) (by rw [e4]; simp [bk_fill, bk_g]) ?_
          refine lv_istore (lv' := [(5, .int (bk_g pts kn k)), (0, .ref a0), (1, .int day), (2, .ref ap), (3, .int (nI (bk_n (bk_g pts kn) 0 10))), (4, .int (nI k))]) hx hb dX0_write_43 hl (by decide) rfl (fun ls hl => ?_)
          refine lv_iload hx hb dX0_write_45 (lv_at hl 0 rfl) ?_
          refine lv_if_eq (tgt := 103) hx hb dX0_write_47 (by decide) (fun c_3 => ?_) (fun c_3 => ?_)
          · skip
            refine wn_iinc (a := k) (d := 1) (lv' := [(4, .int (nI (k + 1))), (5, .int (bk_g pts kn k)), (0, .ref a0), (1, .int day), (2, .ref ap), (3, .int (nI (bk_n (bk_g pts kn) 0 10)))]) hx hb dX0_write_103 hl (k := 5) rfl (by decide) rfl (fun ls hl => ?_)
            refine lv_goto (tgt := 24) hx hb dX0_write_106 (by decide) ?_
            exact ih24 (k + 1) n1 dy1 cl1 df1 kn1 (by omega) (by simp [bk_n, en, c_1, c_2, c_3]) (by simp [bk_f, e1, en, c_1, c_2, c_3]) (by simp [bk_f, e2, en, c_1, c_2, c_3]) (by simp [bk_f, e3, en, c_1, c_2, c_3]) (by first | (rw [e4]; exact bk_fill_1 _ _ _) | (rw [e4]; exact bk_fill_2 (by assumption))) (by omega) _ _ _ hw (lv_sub hl [2, 3, 4, 5, 0] rfl)
          · skip
            have hg0 := c_3
            have hlt : n1 < 600 := (by have h1 := bk_n_lt (n := n) (show k < 10 by omega) hg0; have h2 := bk_n_add (bk_g pts kn) n 10; omega)
            refine lv_aload_n hx hb dX0_write_50 rfl (lv_at hl 1 rfl) ?_
            refine w_get (C := RX0) (T := TX0) (N := 5) (ci := 0) hx hb hts in_0 hown hc hw 0 0 rfl rfl (by decide) lk_2 rfl dX0_write_51 ?_
            refine lv_aload_n hx hb dX0_write_54 rfl (lv_at hl 1 rfl) ?_
            refine w_get (C := RX0) (T := TX0) (N := 5) (ci := 0) hx hb hts in_0 hown hc hw 0 4 rfl rfl (by decide) lk_0 rfl dX0_write_55 ?_
            refine lv_iload_n hx hb dX0_write_58 rfl (lv_at hl 2 rfl) ?_
            refine w_iast (ws1 := [(a0, .inr (0, [.ref a1, .ref a2, .ref a3, .ref a4, .int (nI n1)])), (a1, .inl (cI, 600, .inl (upd dy1 n1 day))), (a2, .inl (cI, 600, .inl cl1)), (a3, .inl (cI, 600, .inl df1)), (a4, .inl (cI, 10, .inl kn1)), (ap, .inl (cI, 10, .inl pts))]) hx hb hc hw 1 rfl rfl (i := n1) (by omega) (by decide) rfl dX0_write_59 (fun H locs hw => ?_)
            refine lv_aload_n hx hb dX0_write_60 rfl (lv_at hl 1 rfl) ?_
            refine w_get (C := RX0) (T := TX0) (N := 5) (ci := 0) hx hb hts in_0 hown hc hw 0 1 rfl rfl (by decide) lk_3 rfl dX0_write_61 ?_
            refine lv_aload_n hx hb dX0_write_64 rfl (lv_at hl 1 rfl) ?_
            refine w_get (C := RX0) (T := TX0) (N := 5) (ci := 0) hx hb hts in_0 hown hc hw 0 4 rfl rfl (by decide) lk_0 rfl dX0_write_65 ?_
            refine lv_iload hx hb dX0_write_68 (lv_at hl 5 rfl) ?_
            refine w_iast (ws1 := [(a0, .inr (0, [.ref a1, .ref a2, .ref a3, .ref a4, .int (nI n1)])), (a1, .inl (cI, 600, .inl (upd dy1 n1 day))), (a2, .inl (cI, 600, .inl (upd cl1 n1 (nI k)))), (a3, .inl (cI, 600, .inl df1)), (a4, .inl (cI, 10, .inl kn1)), (ap, .inl (cI, 10, .inl pts))]) hx hb hc hw 2 rfl rfl (i := n1) (by omega) (by decide) rfl dX0_write_70 (fun H locs hw => ?_)
            refine lv_aload_n hx hb dX0_write_71 rfl (lv_at hl 1 rfl) ?_
            refine w_get (C := RX0) (T := TX0) (N := 5) (ci := 0) hx hb hts in_0 hown hc hw 0 2 rfl rfl (by decide) lk_4 rfl dX0_write_72 ?_
            refine lv_aload_n hx hb dX0_write_75 rfl (lv_at hl 1 rfl) ?_
            refine w_get (C := RX0) (T := TX0) (N := 5) (ci := 0) hx hb hts in_0 hown hc hw 0 4 rfl rfl (by decide) lk_0 rfl dX0_write_76 ?_
            refine lv_iload hx hb dX0_write_79 (lv_at hl 0 rfl) ?_
            refine w_iast (ws1 := [(a0, .inr (0, [.ref a1, .ref a2, .ref a3, .ref a4, .int (nI n1)])), (a1, .inl (cI, 600, .inl (upd dy1 n1 day))), (a2, .inl (cI, 600, .inl (upd cl1 n1 (nI k)))), (a3, .inl (cI, 600, .inl (upd df1 n1 (bk_g pts kn k)))), (a4, .inl (cI, 10, .inl kn1)), (ap, .inl (cI, 10, .inl pts))]) hx hb hc hw 3 rfl rfl (i := n1) (by omega) (by decide) rfl dX0_write_81 (fun H locs hw => ?_)
            refine lv_aload_n hx hb dX0_write_82 rfl (lv_at hl 1 rfl) ?_
            refine w_get (C := RX0) (T := TX0) (N := 5) (ci := 0) hx hb hts in_0 hown hc hw 0 3 rfl rfl (by decide) lk_1 rfl dX0_write_83 ?_
            refine lv_iload hx hb dX0_write_86 (lv_at hl 5 rfl) ?_
            refine lv_aload_n hx hb dX0_write_88 rfl (lv_at hl 3 rfl) ?_
            refine lv_iload hx hb dX0_write_89 (lv_at hl 5 rfl) ?_
            refine w_iald hx hb hc hw 5 rfl rfl (i := k) (by omega) (by decide) dX0_write_91 ?_
            refine w_iast (ws1 := [(a0, .inr (0, [.ref a1, .ref a2, .ref a3, .ref a4, .int (nI n1)])), (a1, .inl (cI, 600, .inl (upd dy1 n1 day))), (a2, .inl (cI, 600, .inl (upd cl1 n1 (nI k)))), (a3, .inl (cI, 600, .inl (upd df1 n1 (bk_g pts kn k)))), (a4, .inl (cI, 10, .inl (upd kn1 k (pts k)))), (ap, .inl (cI, 10, .inl pts))]) hx hb hc hw 4 rfl rfl (i := k) (by omega) (by decide) rfl dX0_write_92 (fun H locs hw => ?_)
            refine lv_aload_n hx hb dX0_write_93 rfl (lv_at hl 1 rfl) ?_
            refine lv_dup hx hb dX0_write_94 rfl ?_
            refine w_get (C := RX0) (T := TX0) (N := 5) (ci := 0) hx hb hts in_0 hown hc hw 0 4 rfl rfl (by decide) lk_0 rfl dX0_write_95 ?_
            refine lv_iconst (v := nI 1) hx hb dX0_write_98 (by decide) ?_
            refine wn_iadd hx hb dX0_write_99 ?_
            refine w_put (C := RX0) (T := TX0) (N := 5) (ci := 0) (v := .int (nI (n1 + 1))) (ws1 := [(a0, .inr (0, [.ref a1, .ref a2, .ref a3, .ref a4, .int (nI (n1 + 1))])), (a1, .inl (cI, 600, .inl (upd dy1 n1 day))), (a2, .inl (cI, 600, .inl (upd cl1 n1 (nI k)))), (a3, .inl (cI, 600, .inl (upd df1 n1 (bk_g pts kn k)))), (a4, .inl (cI, 10, .inl (upd kn1 k (pts k)))), (ap, .inl (cI, 10, .inl pts))]) hx hb hts in_0 tyX0 tyX0_ok nmX0 hown hc hw 0 4 rfl rfl (by decide) lk_0 rfl rfl rfl (Nat.le_of_ble_eq_true rfl) rfl dX0_write_100 (fun H locs hw => ?_)
            refine wn_iinc (a := k) (d := 1) (lv' := [(4, .int (nI (k + 1))), (5, .int (bk_g pts kn k)), (0, .ref a0), (1, .int day), (2, .ref ap), (3, .int (nI (bk_n (bk_g pts kn) 0 10)))]) hx hb dX0_write_103 hl (k := 5) rfl (by decide) rfl (fun ls hl => ?_)
            refine lv_goto (tgt := 24) hx hb dX0_write_106 (by decide) ?_
            exact ih24 (k + 1) (n1 + 1) (upd dy1 n1 day) (upd cl1 n1 (nI k)) (upd df1 n1 (bk_g pts kn k)) (upd kn1 k (pts k)) (by omega) (by simp [bk_n, en, c_1, c_2, c_3]) (by simp [bk_f, e1, en, c_1, c_2, c_3]) (by simp [bk_f, e2, en, c_1, c_2, c_3]) (by simp [bk_f, e3, en, c_1, c_2, c_3]) (by first | (rw [e4]; exact bk_fill_1 _ _ _) | (rw [e4]; exact bk_fill_2 (by assumption))) (by omega) _ _ _ hw (lv_sub hl [2, 3, 4, 5, 0] rfl)
    exact key24 (10 - 0 + 1) 0 n dy cl df kn (by omega) rfl rfl rfl rfl (by funext z; simp [bk_fill]) (Nat.lt_succ_self _) _ _ _ hw (lv_sub hl [2, 3, 4, 1, 0] rfl)
  · exact (by omega)
def rm_c_X0_init : Room := { frames := 1, cells := 4, slots := 1810, locals := 12 }
set_option maxHeartbeats 4000000 in
set_option maxRecDepth 100000 in
theorem c_X0_init (l : Launch) (D : va_G) (cI cZ cB cJ : ClassId) (b0 : Nat) (adK adV : Nat → Nat) (a0 : Nat) : Mv l yX0_init wsX0_init rm_c_X0_init D (TYs cI cZ cB cJ) b0 adK adV [.ref a0] [(a0, .inr (0, [.null, .null, .null, .null, .int (nI 0)]))] (fun w : va_W => ∃ (a1 : Nat) (a2 : Nat) (a3 : Nat) (a4 : Nat), w = [(a0, .inr (0, [.ref a1, .ref a2, .ref a3, .ref a4, .int (nI 0)])), (a1, .inl (cI, 600, .inl (fun _ => 0))), (a2, .inl (cI, 600, .inl (fun _ => 0))), (a3, .inl (cI, 600, .inl (fun _ => 0))), (a4, .inl (cI, 10, .inl (fun _ => 0)))]) 4 1810 := by
  refine e_M (Qf := fun A => va_Qv (fun w : va_W => ∃ (a1 : Nat) (a2 : Nat) (a3 : Nat) (a4 : Nat), w = [(a0, .inr (0, [.ref a1, .ref a2, .ref a3, .ref a4, .int (nI 0)])), (a1, .inl (cI, 600, .inl (fun _ => 0))), (a2, .inl (cI, 600, .inl (fun _ => 0))), (a3, .inl (cI, 600, .inl (fun _ => 0))), (a4, .inl (cI, 10, .inl (fun _ => 0)))]) (Bw D A) A) (cc := cX0_init) (maxL := 1) (ret := none) (by decide) rfl (Nat.le_of_ble_eq_true rfl) ?_
  intro p e s m args below meth c ls A Q H locs hx hb hr hml hts hown hlk hnm hc hw hl hQ
  have hl : lv_has ls 1 [(0, .ref a0)] := hl
  have in_0 : ∀ w ∈ u_ws RX0 TX0 5, w ∈ wsX0_init := fun _ h => List.mem_cons_of_mem _ (List.mem_append_right _ h)
  have lk_0 := hts (.methodLink RX0 3 objectInit) (List.mem_of_getElem? (i := 1) rfl)
  have lk_1 := hts (.instanceMethod objectInit) (List.mem_of_getElem? (i := 2) rfl)
  have lk_2 := hts (.arrayClass .int) (List.mem_of_getElem? (i := 4) rfl)
  have lk_3 := hts (.fieldLink RX0 9 "PloughingMatch$Book" "days" "[I") (List.mem_of_getElem? (i := 5) rfl)
  have lk_4 := hts (.fieldLink RX0 15 "PloughingMatch$Book" "clubs" "[I") (List.mem_of_getElem? (i := 6) rfl)
  have lk_5 := hts (.fieldLink RX0 18 "PloughingMatch$Book" "differences" "[I") (List.mem_of_getElem? (i := 7) rfl)
  have lk_6 := hts (.fieldLink RX0 21 "PloughingMatch$Book" "knownByClub" "[I") (List.mem_of_getElem? (i := 8) rfl)
  have lk_7 := hts (.fieldLink RX0 24 "PloughingMatch$Book" "size" "I") (List.mem_of_getElem? (i := 9) rfl)
  refine lv_aload_n hx hb dX0_init_0 rfl (lv_at hl 0 rfl) ?_
  refine W.objInit hx hb hown lk_0 lk_1 (hts _ (List.mem_of_getElem? (i := 3) rfl)) rfl (by rw [hml]; exact hl.1) rfl dX0_init_1 (Nat.le_of_ble_eq_true rfl) (Nat.le_of_ble_eq_true rfl) ?_
  refine W.eq (g2 := F0 m 4 ls []) rfl ?_
  refine lv_aload_n hx hb dX0_init_4 rfl (lv_at hl 0 rfl) ?_
  refine lv_sipush (v := nI 600) hx hb dX0_init_5 (by decide) ?_
  refine va_newa hx hb (atype := .int) lk_2 rfl hc.1 hw.1 hw.2.1 hw.2.2 hc.2.1 (a0 := (600, .inl (fun _ => 0))) (fun cA => rfl) (by decide) (nI_clamp (by decide)) (by decide) (by decide) (by decide) dX0_init_8 (fun a1 cA_1 H hK9 hP hD hS => ?_)
  have cA_1e : cA_1 = cI := Option.some.inj ((hK9.2 4 _ rfl).2.symm.trans (hc.1.2 0 _ rfl).2)
  rw [cA_1e] at hP hD
  have hw : Wd D A s H _ [(a0, .inr (0, [.null, .null, .null, .null, .int (nI 0)])), (a1, .inl (cI, 600, .inl (fun _ => 0)))] := ⟨hP, hD, hS⟩
  refine W.widen (k := 1) (n := 600) (by decide) (by decide) ?_
  refine w_putF (C := RX0) (T := TX0) (N := 5) (ci := 0) (v := .ref a1) (ws1 := [(a0, .inr (0, [.ref a1, .null, .null, .null, .int (nI 0)])), (a1, .inl (cI, 600, .inl (fun _ => 0)))]) hx hb hts in_0 tyX0 tyX0_ok nmX0 hown hc hw 0 0 rfl rfl (by decide) lk_3 rfl hnm rfl rfl rfl (Nat.le_of_ble_eq_true rfl) rfl dX0_init_10 (fun H locs hw => ?_)
  refine lv_aload_n hx hb dX0_init_13 rfl (lv_at hl 0 rfl) ?_
  refine lv_sipush (v := nI 600) hx hb dX0_init_14 (by decide) ?_
  refine va_newa hx hb (atype := .int) lk_2 rfl hc.1 hw.1 hw.2.1 hw.2.2 hc.2.1 (a0 := (600, .inl (fun _ => 0))) (fun cA => rfl) (by decide) (nI_clamp (by decide)) (by decide) (by decide) (by decide) dX0_init_17 (fun a2 cA_2 H hK9 hP hD hS => ?_)
  have cA_2e : cA_2 = cI := Option.some.inj ((hK9.2 4 _ rfl).2.symm.trans (hc.1.2 0 _ rfl).2)
  rw [cA_2e] at hP hD
  have hw : Wd D A s H _ [(a0, .inr (0, [.ref a1, .null, .null, .null, .int (nI 0)])), (a1, .inl (cI, 600, .inl (fun _ => 0))), (a2, .inl (cI, 600, .inl (fun _ => 0)))] := ⟨hP, hD, hS⟩
  refine W.widen (k := 2) (n := 1200) (by decide) (by decide) ?_
  refine w_putF (C := RX0) (T := TX0) (N := 5) (ci := 0) (v := .ref a2) (ws1 := [(a0, .inr (0, [.ref a1, .ref a2, .null, .null, .int (nI 0)])), (a1, .inl (cI, 600, .inl (fun _ => 0))), (a2, .inl (cI, 600, .inl (fun _ => 0)))]) hx hb hts in_0 tyX0 tyX0_ok nmX0 hown hc hw 0 1 rfl rfl (by decide) lk_4 rfl hnm rfl rfl rfl (Nat.le_of_ble_eq_true rfl) rfl dX0_init_19 (fun H locs hw => ?_)
  refine lv_aload_n hx hb dX0_init_22 rfl (lv_at hl 0 rfl) ?_
  refine lv_sipush (v := nI 600) hx hb dX0_init_23 (by decide) ?_
  refine va_newa hx hb (atype := .int) lk_2 rfl hc.1 hw.1 hw.2.1 hw.2.2 hc.2.1 (a0 := (600, .inl (fun _ => 0))) (fun cA => rfl) (by decide) (nI_clamp (by decide)) (by decide) (by decide) (by decide) dX0_init_26 (fun a3 cA_3 H hK9 hP hD hS => ?_)
  have cA_3e : cA_3 = cI := Option.some.inj ((hK9.2 4 _ rfl).2.symm.trans (hc.1.2 0 _ rfl).2)
  rw [cA_3e] at hP hD
  have hw : Wd D A s H _ [(a0, .inr (0, [.ref a1, .ref a2, .null, .null, .int (nI 0)])), (a1, .inl (cI, 600, .inl (fun _ => 0))), (a2, .inl (cI, 600, .inl (fun _ => 0))), (a3, .inl (cI, 600, .inl (fun _ => 0)))] := ⟨hP, hD, hS⟩
  refine W.widen (k := 3) (n := 1800) (by decide) (by decide) ?_
  refine w_putF (C := RX0) (T := TX0) (N := 5) (ci := 0) (v := .ref a3) (ws1 := [(a0, .inr (0, [.ref a1, .ref a2, .ref a3, .null, .int (nI 0)])), (a1, .inl (cI, 600, .inl (fun _ => 0))), (a2, .inl (cI, 600, .inl (fun _ => 0))), (a3, .inl (cI, 600, .inl (fun _ => 0)))]) hx hb hts in_0 tyX0 tyX0_ok nmX0 hown hc hw 0 2 rfl rfl (by decide) lk_5 rfl hnm rfl rfl rfl (Nat.le_of_ble_eq_true rfl) rfl dX0_init_28 (fun H locs hw => ?_)
  refine lv_aload_n hx hb dX0_init_31 rfl (lv_at hl 0 rfl) ?_
  refine lv_bipush (v := nI 10) hx hb dX0_init_32 (by decide) ?_
  refine va_newa hx hb (atype := .int) lk_2 rfl hc.1 hw.1 hw.2.1 hw.2.2 hc.2.1 (a0 := (10, .inl (fun _ => 0))) (fun cA => rfl) (by decide) (nI_clamp (by decide)) (by decide) (by decide) (by decide) dX0_init_34 (fun a4 cA_4 H hK9 hP hD hS => ?_)
  have cA_4e : cA_4 = cI := Option.some.inj ((hK9.2 4 _ rfl).2.symm.trans (hc.1.2 0 _ rfl).2)
  rw [cA_4e] at hP hD
  have hw : Wd D A s H _ [(a0, .inr (0, [.ref a1, .ref a2, .ref a3, .null, .int (nI 0)])), (a1, .inl (cI, 600, .inl (fun _ => 0))), (a2, .inl (cI, 600, .inl (fun _ => 0))), (a3, .inl (cI, 600, .inl (fun _ => 0))), (a4, .inl (cI, 10, .inl (fun _ => 0)))] := ⟨hP, hD, hS⟩
  refine W.widen (k := 4) (n := 1810) (by decide) (by decide) ?_
  refine w_putF (C := RX0) (T := TX0) (N := 5) (ci := 0) (v := .ref a4) (ws1 := [(a0, .inr (0, [.ref a1, .ref a2, .ref a3, .ref a4, .int (nI 0)])), (a1, .inl (cI, 600, .inl (fun _ => 0))), (a2, .inl (cI, 600, .inl (fun _ => 0))), (a3, .inl (cI, 600, .inl (fun _ => 0))), (a4, .inl (cI, 10, .inl (fun _ => 0)))]) hx hb hts in_0 tyX0 tyX0_ok nmX0 hown hc hw 0 3 rfl rfl (by decide) lk_6 rfl hnm rfl rfl rfl (Nat.le_of_ble_eq_true rfl) rfl dX0_init_36 (fun H locs hw => ?_)
  refine lv_aload_n hx hb dX0_init_39 rfl (lv_at hl 0 rfl) ?_
  refine lv_iconst (v := nI 0) hx hb dX0_init_40 (by decide) ?_
  refine w_put (C := RX0) (T := TX0) (N := 5) (ci := 0) (v := .int (nI 0)) (ws1 := [(a0, .inr (0, [.ref a1, .ref a2, .ref a3, .ref a4, .int (nI 0)])), (a1, .inl (cI, 600, .inl (fun _ => 0))), (a2, .inl (cI, 600, .inl (fun _ => 0))), (a3, .inl (cI, 600, .inl (fun _ => 0))), (a4, .inl (cI, 10, .inl (fun _ => 0)))]) hx hb hts in_0 tyX0 tyX0_ok nmX0 hown hc hw 0 4 rfl rfl (by decide) lk_7 rfl rfl rfl (Nat.le_of_ble_eq_true rfl) rfl dX0_init_41 (fun H locs hw => ?_)
  subst hQ
  exact r_v hx hb hr hlk hw ⟨a1, a2, a3, a4, rfl⟩ dX0_init_44
