theorem e_F {l : Launch} {y : MethodName} {wl wl' : List Cond} {rm : Room} {D : va_G} {tys : List (ClassId × FieldType)} {b0 : Nat} {adK adV : Nat → Nat} {av : List Value} {ws : va_W} {mc ms maxL : Nat} {cc : ByteArray} {ret : Option FieldType} {Qf : (Nat → Prop) → Array Value → State → Outcome → State → Prop}
    (hy : plainFor y = true) (hw : wl = Cond.code y cc maxL ret :: wl') (hlen : (lg_sl av).length ≤ maxL)
    (body : ∀ (p : Program) (e : Env) (s : State) (m : MethodId) (args : Array Value) (below : List Frame) (meth : Method) (c : Code) (ls : Array Slot) (A : Nat → Prop) (Q : State → Prop) (H : Heap) (locs : List Loc), p.tables.exec = Jvm.exec → c.code = cc → meth.sig.returnType = ret → c.maxLocals = maxL → (∀ w ∈ wl, w.before args s = true) → s.vm.findClass y.cls = some m.cls → meth.locks = false → meth.name = y.name → Cx D tys b0 adK adV A s → Wd D A s H locs ws → lv_has ls maxL (lv_args 0 av) → Q = MQ below (Qf A) args s mc ms A →
      W p l e rm s m args below meth c H locs 0 0 Q (F0 m 0 ls [])) (sz : Nat) : Met l y wl rm (Pq D tys b0 adK adV av ws sz) (Qf (va_A ws sz)) mc ms (va_A ws sz) := by
  refine va_MetF (cc := cc) (maxL := maxL) (ret := ret) hy hw ?_
  intro p e s m args below meth c s₁ B hml hv
  obtain ⟨rfl, hsz, hP, hK, hD0, hb0, hAm⟩ := hv
  subst hsz
  have hl := lv_entry av (n := maxL) hlen
  rw [lg_entry_eq]
  exact body p e s m av.toArray below meth c _ (va_A ws s.heap.size) _ s.heap [] B.exec B.bytes B.returns hml (atoms_spec (ws := wl) B.pre) (findClass_of_methodNamed B.named) B.notSynchronized (name_of_methodNamed B.named B.method).1 ⟨hK, fun q h => Or.inr h, fun q h => h.elim (fun ⟨k, e9, hk⟩ => hD0.2 k (q, e9) hk) (fun h => Nat.le_trans hb0 h), hb0, hAm⟩ ⟨hP, hD0.self, va_S.rf⟩ hl rfl
theorem vx_at_all {own cls : String} {ic : Nat} {names : List String} {Ts B : List Cond} {args : Array Value} {s : State} (hts : ∀ w ∈ Ts, w.before args s = true) (h1 : ∀ w ∈ (vx_atS own ic cls names).filter goodWord, w ∈ Ts) (h2 : ∀ w ∈ (vx_atS own ic cls names).filter (fun w => !goodWord w), w ∈ B) (h3 : ∀ w ∈ B, w.before args s = true) : ∀ w ∈ vx_atS own ic cls names, w.before args s = true :=
  vx_hat (fun w h => hts w (h1 w h)) h2 h3
def rm_c_X9_isBelow : Room := { frames := 0, cells := 0, slots := 0, locals := 0 }
set_option maxHeartbeats 4000000 in
set_option maxRecDepth 100000 in
theorem c_X9_isBelow (l : Launch) (D : va_G) (cI cZ cB cJ : ClassId) (b0 : Nat) (adK adV : Nat → Nat) (v : Int32) (b : Int32) : Mi l yX9_isBelow wsX9_isBelow rm_c_X9_isBelow D (TYs cI cZ cB cJ) b0 adK adV [.int v, .int b] [] (fun (r : Int32) (w : va_W) => r = zI (isB v b) ∧ w = []) 0 0 := by
  refine e_M (Qf := fun A => va_Qi (fun (r : Int32) (w : va_W) => r = zI (isB v b) ∧ w = []) (Bw D A) A) (cc := cX9_isBelow) (maxL := 2) (ret := (some .boolean)) (by decide) rfl (Nat.le_of_ble_eq_true rfl) ?_
  intro p e s m args below meth c ls A Q H locs hx hb hr hml hts hown hlk hnm hc hw hl hQ
  have hl : lv_has ls 2 [(0, .int v), (1, .int b)] := hl
  refine lv_iload_n hx hb dX9_isBelow_0 rfl (lv_at hl 0 rfl) ?_
  refine lv_if_lt (tgt := 13) hx hb dX9_isBelow_1 (by decide) (fun c_1 => ?_) (fun c_1 => ?_)
  · skip
    have c_1' := i32_nle.mpr c_1
    refine lv_iconst (v := nI 0) hx hb dX9_isBelow_13 (by decide) ?_
    subst hQ
    exact r_i hx hb hr rfl hlk hw ⟨(by simp [isB, zI, nI, i32_nlt, c_1, c_1']; try rfl), rfl⟩ dX9_isBelow_14
  · skip
    have c_1' := i32_nlt.mp c_1
    refine lv_iload_n hx hb dX9_isBelow_4 rfl (lv_at hl 0 rfl) ?_
    refine lv_iload_n hx hb dX9_isBelow_5 rfl (lv_at hl 1 rfl) ?_
    refine lv_icmp_ge (tgt := 13) hx hb dX9_isBelow_6 (by decide) (fun c_2 => ?_) (fun c_2 => ?_)
    · skip
      have c_2' := i32_nlt.mpr c_2
      refine lv_iconst (v := nI 0) hx hb dX9_isBelow_13 (by decide) ?_
      subst hQ
      exact r_i hx hb hr rfl hlk hw ⟨(by simp [isB, zI, nI, i32_nlt, c_1, c_1', c_2, c_2']; try rfl), rfl⟩ dX9_isBelow_14
    · skip
      have c_2' := i32_nle.mp c_2
      refine lv_iconst (v := nI 1) hx hb dX9_isBelow_9 (by decide) ?_
      refine lv_goto (tgt := 14) hx hb dX9_isBelow_10 (by decide) ?_
      subst hQ
      exact r_i hx hb hr rfl hlk hw ⟨(by simp [isB, zI, nI, i32_nlt, c_1, c_1', c_2, c_2']; try rfl), rfl⟩ dX9_isBelow_14
def rm_c_J7_fill_53178 : Room := { frames := 0, cells := 0, slots := 0, locals := 0 }
set_option maxHeartbeats 4000000 in
set_option maxRecDepth 100000 in
theorem c_J7_fill_53178 (l : Launch) (D : va_G) (cI cZ cB cJ : ClassId) (b0 : Nat) (adK adV : Nat → Nat) (a0 : Nat) (n : Nat) (f : Nat → Int32) (x : Int32) (hn : n < 2 ^ 31) : Mv l yJ7_fill_53178 wsJ7_fill_53178 rm_c_J7_fill_53178 D (TYs cI cZ cB cJ) b0 adK adV [.ref a0, .int x] [(a0, .inl (cI, n, .inl f))] (fun w : va_W => w = [(a0, .inl (cI, n, .inl (fa_fill (fun _ => x) f n)))]) 0 0 := by
  refine e_F (Qf := fun A => va_Qv (fun w : va_W => w = [(a0, .inl (cI, n, .inl (fa_fill (fun _ => x) f n)))]) (Bw D A) A) (cc := cJ7_fill_53178) (maxL := 4) (ret := none) (by decide +kernel) rfl (Nat.le_of_ble_eq_true rfl) ?_
  intro p e s m args below meth c ls A Q H locs hx hb hr hml hts hown hlk hnm hc hw hl hQ
  have hl : lv_has ls 4 [(0, .ref a0), (1, .int x)] := hl
  refine lv_iconst (v := nI 0) hx hb dJ7_fill_53178_0 (by decide) ?_
  refine lv_istore_n (lv' := [(2, .int (nI 0)), (0, .ref a0), (1, .int x)]) hx hb dJ7_fill_53178_1 rfl hl (by decide) rfl (fun ls hl => ?_)
  refine lv_aload_n hx hb dJ7_fill_53178_2 rfl (lv_at hl 1 rfl) ?_
  refine w_alen hx hb hc hw 0 0 rfl rfl dJ7_fill_53178_3 ?_
  refine lv_istore_n (lv' := [(3, .int (nI n)), (2, .int (nI 0)), (0, .ref a0), (1, .int x)]) hx hb dJ7_fill_53178_4 rfl hl (by decide) rfl (fun ls hl => ?_)
  have key5 : ∀ (fuel : Nat) (k : Nat) (f1 : Nat → Int32), k ≤ n → f1 = fa_fill (fun _ => x) f k → n - k < fuel → ∀ (H : Heap) (locs : List Loc) (ls : Array Slot), Wd D A s H locs [(a0, .inl (cI, n, .inl f1))] → lv_has ls 4 [(0, .ref a0), (1, .int x), (2, .int (nI k)), (3, .int (nI n))] → W p l e rm_c_J7_fill_53178 s m args below meth c H locs 0 0 Q (F0 m 5 ls []) := by
    intro fuel
    induction fuel with
    | zero => intro k f1 hk e1 hfu; exact absurd hfu (Nat.not_lt_zero _)
    | succ fuel ih =>
      intro k f1 hk e1 hfu H locs ls hw hl
      have ih5 := ih
      refine lv_iload_n hx hb dJ7_fill_53178_5 rfl (lv_at hl 2 rfl) ?_
      refine lv_iload_n hx hb dJ7_fill_53178_6 rfl (lv_at hl 3 rfl) ?_
      refine wb_icmp_ge (tgt := 20) hx hb (by omega) (by omega) dJ7_fill_53178_7 (by decide) (fun c_1 => ?_) (fun c_1 => ?_)
      · skip
        subst hQ
        exact r_v hx hb hr hlk hw (by rw [e1, show k = n by omega]) dJ7_fill_53178_20
      · skip
        refine lv_aload_n hx hb dJ7_fill_53178_10 rfl (lv_at hl 0 rfl) ?_
        refine lv_iload_n hx hb dJ7_fill_53178_11 rfl (lv_at hl 2 rfl) ?_
        refine lv_iload_n hx hb dJ7_fill_53178_12 rfl (lv_at hl 1 rfl) ?_
        refine w_iast (ws1 := [(a0, .inl (cI, n, .inl (upd f1 k x)))]) hx hb hc hw 0 rfl rfl (i := k) (by omega) (by omega) rfl dJ7_fill_53178_13 (fun H locs hw => ?_)
        refine wn_iinc (a := k) (d := 1) (lv' := [(2, .int (nI (k + 1))), (0, .ref a0), (1, .int x), (3, .int (nI n))]) hx hb dJ7_fill_53178_14 hl (k := 2) rfl (by decide) rfl (fun ls hl => ?_)
        refine lv_goto (tgt := 5) hx hb dJ7_fill_53178_17 (by decide) ?_
        exact ih5 (k + 1) (upd f1 k x) (by omega) (by rw [e1]; exact fa_fill_succ (fun _ => x) f k) (by omega) _ _ _ hw (lv_sub hl [1, 2, 0, 3] rfl)
  exact key5 (n - 0 + 1) 0 f (by omega) (fa_fill_0 _ _).symm (Nat.lt_succ_self _) _ _ _ hw (lv_sub hl [2, 3, 1, 0] rfl)
def rm_c_J9_floorDiv_7cf53 : Room := { frames := 0, cells := 0, slots := 0, locals := 0 }
set_option maxHeartbeats 4000000 in
set_option maxRecDepth 100000 in
theorem c_J9_floorDiv_7cf53 (l : Launch) (D : va_G) (cI cZ cB cJ : ClassId) (b0 : Nat) (adK adV : Nat → Nat) (x : Int32) (d : Nat) (h0 : 0 < d) (hd : d < 2 ^ 31) : Mi l yJ9_floorDiv_7cf53 wsJ9_floorDiv_7cf53 rm_c_J9_floorDiv_7cf53 D (TYs cI cZ cB cJ) b0 adK adV [.int x, .int (nI d)] [] (fun (r : Int32) (w : va_W) => r = fdiv x d ∧ w = []) 0 0 := by
  refine e_F (Qf := fun A => va_Qi (fun (r : Int32) (w : va_W) => r = fdiv x d ∧ w = []) (Bw D A) A) (cc := cJ9_floorDiv_7cf53) (maxL := 3) (ret := (some .int)) (by decide +kernel) rfl (Nat.le_of_ble_eq_true rfl) ?_
  intro p e s m args below meth c ls A Q H locs hx hb hr hml hts hown hlk hnm hc hw hl hQ
  have hl : lv_has ls 3 [(0, .int x), (1, .int (nI d))] := hl
  refine lv_iload_n hx hb dJ9_floorDiv_7cf53_0 rfl (lv_at hl 0 rfl) ?_
  refine lv_iload_n hx hb dJ9_floorDiv_7cf53_1 rfl (lv_at hl 1 rfl) ?_
  refine lv_idiv hx hb dJ9_floorDiv_7cf53_2 (nI_ne0 h0 hd) ?_
  refine lv_istore_n (lv' := [(2, .int (x / (nI d))), (0, .int x), (1, .int (nI d))]) hx hb dJ9_floorDiv_7cf53_3 rfl hl (by decide) rfl (fun ls hl => ?_)
  refine lv_iload_n hx hb dJ9_floorDiv_7cf53_4 rfl (lv_at hl 1 rfl) ?_
  refine lv_iload_n hx hb dJ9_floorDiv_7cf53_5 rfl (lv_at hl 2 rfl) ?_
  refine lv_ixor hx hb dJ9_floorDiv_7cf53_6 ?_
  refine lv_if_ge (tgt := 21) hx hb dJ9_floorDiv_7cf53_7 (by decide) (fun c_1 => ?_) (fun c_1 => ?_)
  · skip
    have c_1' := i32_nlt.mpr c_1
    refine lv_iload_n hx hb dJ9_floorDiv_7cf53_21 rfl (lv_at hl 0 rfl) ?_
    subst hQ
    exact r_i hx hb hr rfl hlk hw ⟨(fdiv_eq2 h0 hd (Or.inl c_1)), rfl⟩ dJ9_floorDiv_7cf53_22
  · skip
    have c_1' := i32_nle.mp c_1
    refine lv_iload_n hx hb dJ9_floorDiv_7cf53_10 rfl (lv_at hl 0 rfl) ?_
    refine lv_iload_n hx hb dJ9_floorDiv_7cf53_11 rfl (lv_at hl 2 rfl) ?_
    refine lv_imul hx hb dJ9_floorDiv_7cf53_12 ?_
    refine lv_iload_n hx hb dJ9_floorDiv_7cf53_13 rfl (lv_at hl 1 rfl) ?_
    refine lv_icmp_eq (tgt := 21) hx hb dJ9_floorDiv_7cf53_14 (by decide) (fun c_2 => ?_) (fun c_2 => ?_)
    · skip
      refine lv_iload_n hx hb dJ9_floorDiv_7cf53_21 rfl (lv_at hl 0 rfl) ?_
      subst hQ
      exact r_i hx hb hr rfl hlk hw ⟨(fdiv_eq2 h0 hd (Or.inr c_2)), rfl⟩ dJ9_floorDiv_7cf53_22
    · skip
      refine lv_iload_n hx hb dJ9_floorDiv_7cf53_17 rfl (lv_at hl 0 rfl) ?_
      refine lv_iconst (v := nI 1) hx hb dJ9_floorDiv_7cf53_18 (by decide) ?_
      refine lv_isub hx hb dJ9_floorDiv_7cf53_19 ?_
      subst hQ
      exact r_i hx hb hr rfl hlk hw ⟨(fdiv_eq1 h0 hd c_1 c_2), rfl⟩ dJ9_floorDiv_7cf53_20
