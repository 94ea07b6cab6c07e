/-! calls over the bundled worlds -/
theorem Wd.sub {D : va_G} {A : Nat → Prop} {s : State} {H : Heap} {locs : List Loc} {ws ws' : va_W} (hw : Wd D A s H locs ws) (is : List Nat) (hn : va_nd is = true) (hs : is.map (fun i => ws[i]?) = ws'.map some) : Wd D A s H locs ws' := by
  refine ⟨hw.1.sub is ?_, hw.2.1.sub is hn hs, hw.2.2⟩
  have h1 : is.filterMap (fun i => ws[i]?) = (is.map (fun i => ws[i]?)).filterMap id := by rw [List.filterMap_map]; rfl
  rw [h1, hs, List.filterMap_map]
  show ws'.filterMap some = ws'
  exact List.filterMap_some
section CK
variable {p : Program} {l : Launch} {e : Env} {R : Room} {s : State} {m : MethodId} {args : Array Value} {below : List Frame} {meth : Method} {c : Code} {H : Heap} {locs : List Loc} {cells slots : Nat} {Q : State → Prop}
variable {cc : ByteArray} {pc : Nat} {ls : Array Slot} {rest st0 : List Value} {D : va_G} {tys : List (ClassId × FieldType)} {b0 : Nat} {adK adV : Nat → Nat} {A : Nat → Prop} {ws wc wr : va_W} {mc ms : Nat} {a : Array Value}
/-- behind a call: the callee's cells come back beside the rest -/
theorem k_i {post : Int32 → va_W → Prop} (hr : va_Run p l e R s m args below meth c H locs cells slots mc ms (F0 m pc ls st0) rest (va_Qi post (Bw D (va_A wc H.size)) (va_A wc H.size) a) (va_A wc H.size)) (hc : Cx D tys b0 adK adV A s) (hw : Wd D A s H locs ws) (isC isR : List Nat) (hC : isC.map (fun i => ws[i]?) = wc.map some) (hR : isR.map (fun i => ws[i]?) = wr.map some) (hn : va_nd isR = true) (hdis : ∀ i ∈ isR, i ∉ isC)
    (kk : ∀ (r : Int32) (w : va_W) (H1 : Heap) (locs1 : List Loc), post r w → Wd D A s H1 locs1 (wr ++ w) → W p l e R s m args below meth c H1 locs1 (cells + mc) (slots + ms) Q (F0 m (pc + 3) ls (.int r :: rest))) : W p l e R s m args below meth c H locs cells slots Q (F0 m pc ls st0) := by
  have hF := va_free hw.2.1 hw.2.2 hc.2.1 isC hC
  refine va_calli hr hw.2.2 (fun q _ h => hF q h) hF (fun r w t H1 locs1 ht hvm hp hB hz hk hS => ?_)
  obtain ⟨hP1, hD1⟩ := hB
  rw [ht] at hP1
  obtain ⟨hP, hD⟩ := va_join hw.1 hw.2.1 isC isR hC hR hn hdis hk hF hP1 hD1
  exact kk r w H1 locs1 hp ⟨hP, hD, hS⟩
theorem k_v {post : va_W → Prop} (hr : va_Run p l e R s m args below meth c H locs cells slots mc ms (F0 m pc ls st0) rest (va_Qv post (Bw D (va_A wc H.size)) (va_A wc H.size) a) (va_A wc H.size)) (hc : Cx D tys b0 adK adV A s) (hw : Wd D A s H locs ws) (isC isR : List Nat) (hC : isC.map (fun i => ws[i]?) = wc.map some) (hR : isR.map (fun i => ws[i]?) = wr.map some) (hn : va_nd isR = true) (hdis : ∀ i ∈ isR, i ∉ isC)
    (kk : ∀ (w : va_W) (H1 : Heap) (locs1 : List Loc), post w → Wd D A s H1 locs1 (wr ++ w) → W p l e R s m args below meth c H1 locs1 (cells + mc) (slots + ms) Q (F0 m (pc + 3) ls rest)) : W p l e R s m args below meth c H locs cells slots Q (F0 m pc ls st0) := by
  have hF := va_free hw.2.1 hw.2.2 hc.2.1 isC hC
  refine va_callv hr hw.2.2 (fun q _ h => hF q h) hF (fun w t H1 locs1 ht hvm hp hB hz hk hS => ?_)
  obtain ⟨hP1, hD1⟩ := hB
  rw [ht] at hP1
  obtain ⟨hP, hD⟩ := va_join hw.1 hw.2.1 isC isR hC hR hn hdis hk hF hP1 hD1
  exact kk w H1 locs1 hp ⟨hP, hD, hS⟩
theorem kx_i {post : Int32 → va_W → Prop} {px : String → va_W → Prop} (hr : vx_Run p l e R s m args below meth c H locs cells slots mc ms (F0 m pc ls st0) rest (va_Qi post (Bw D (va_A wc H.size)) (va_A wc H.size) a) (XB D (va_A wc H.size) px) (va_A wc H.size)) (hc : Cx D tys b0 adK adV A s) (hw : Wd D A s H locs ws) (isC isR : List Nat) (hC : isC.map (fun i => ws[i]?) = wc.map some) (hR : isR.map (fun i => ws[i]?) = wr.map some) (hn : va_nd isR = true) (hdis : ∀ i ∈ isR, i ∉ isC)
    (kx : ∀ (E : String) (ce : Cell) (q : Addr) (w : va_W) (H1 : Heap) (locs1 : List Loc), px E w → Wd D A s H1 locs1 (wr ++ w) → H1[q]? = some ce → ce.vm = .none → s.vm.findClass E = some ce.cls → vx_W p l e R s m args below meth c H1 locs1 (cells + mc) (slots + ms) Q (F0 m pc ls rest) q)
    (kk : ∀ (r : Int32) (w : va_W) (H1 : Heap) (locs1 : List Loc), post r w → Wd D A s H1 locs1 (wr ++ w) → W p l e R s m args below meth c H1 locs1 (cells + mc) (slots + ms) Q (F0 m (pc + 3) ls (.int r :: rest))) : W p l e R s m args below meth c H locs cells slots Q (F0 m pc ls st0) := by
  have hF := va_free hw.2.1 hw.2.2 hc.2.1 isC hC
  refine vx_calli hr hw.2.2 (fun q _ h => hF q h) hF (fun q _ h => hF q h) (fun E ce q w t H1 locs1 ht hvm _ hB hz hk hS h1 h2 h3 => ?_) (fun r w t H1 locs1 ht hvm hp hB hz hk hS => ?_)
  · obtain ⟨hp, hP1, hD1⟩ := hB
    rw [ht] at hP1
    obtain ⟨hP, hD⟩ := va_join hw.1 hw.2.1 isC isR hC hR hn hdis hk hF hP1 hD1
    exact kx E ce q w H1 locs1 hp ⟨hP, hD, hS⟩ h1 h2 h3
  · obtain ⟨hP1, hD1⟩ := hB
    rw [ht] at hP1
    obtain ⟨hP, hD⟩ := va_join hw.1 hw.2.1 isC isR hC hR hn hdis hk hF hP1 hD1
    exact kk r w H1 locs1 hp ⟨hP, hD, hS⟩
theorem kx_v {post : va_W → Prop} {px : String → va_W → Prop} (hr : vx_Run p l e R s m args below meth c H locs cells slots mc ms (F0 m pc ls st0) rest (va_Qv post (Bw D (va_A wc H.size)) (va_A wc H.size) a) (XB D (va_A wc H.size) px) (va_A wc H.size)) (hc : Cx D tys b0 adK adV A s) (hw : Wd D A s H locs ws) (isC isR : List Nat) (hC : isC.map (fun i => ws[i]?) = wc.map some) (hR : isR.map (fun i => ws[i]?) = wr.map some) (hn : va_nd isR = true) (hdis : ∀ i ∈ isR, i ∉ isC)
    (kx : ∀ (E : String) (ce : Cell) (q : Addr) (w : va_W) (H1 : Heap) (locs1 : List Loc), px E w → Wd D A s H1 locs1 (wr ++ w) → H1[q]? = some ce → ce.vm = .none → s.vm.findClass E = some ce.cls → vx_W p l e R s m args below meth c H1 locs1 (cells + mc) (slots + ms) Q (F0 m pc ls rest) q)
    (kk : ∀ (w : va_W) (H1 : Heap) (locs1 : List Loc), post w → Wd D A s H1 locs1 (wr ++ w) → W p l e R s m args below meth c H1 locs1 (cells + mc) (slots + ms) Q (F0 m (pc + 3) ls rest)) : W p l e R s m args below meth c H locs cells slots Q (F0 m pc ls st0) := by
  have hF := va_free hw.2.1 hw.2.2 hc.2.1 isC hC
  refine vx_callv hr hw.2.2 (fun q _ h => hF q h) hF (fun q _ h => hF q h) (fun E ce q w t H1 locs1 ht hvm _ hB hz hk hS h1 h2 h3 => ?_) (fun w t H1 locs1 ht hvm hp hB hz hk hS => ?_)
  · obtain ⟨hp, hP1, hD1⟩ := hB
    rw [ht] at hP1
    obtain ⟨hP, hD⟩ := va_join hw.1 hw.2.1 isC isR hC hR hn hdis hk hF hP1 hD1
    exact kx E ce q w H1 locs1 hp ⟨hP, hD, hS⟩ h1 h2 h3
  · obtain ⟨hP1, hD1⟩ := hB
    rw [ht] at hP1
    obtain ⟨hP, hD⟩ := va_join hw.1 hw.2.1 isC isR hC hR hn hdis hk hF hP1 hD1
    exact kk w H1 locs1 hp ⟨hP, hD, hS⟩
/-- an exception goes on to the caller -/
theorem x_out {Qc : Array Value → State → Outcome → State → Prop} {px : String → va_W → Prop} {E : String} {ce : Cell} {q : Addr} {mc ms : Nat} (htb : ∀ x ∈ c.exceptionTable.toList, False) (hlk : meth.locks = false) (hw : Wd D A s H locs ws) (hp : px E ws) (hcell : H[q]? = some ce) (hv : ce.vm = .none) (hcl : s.vm.findClass E = some ce.cls) (h1 : cells ≤ mc) (h2 : slots ≤ ms) :
    vx_W p l e R s m args below meth c H locs cells slots (vx_MQ below Qc (XB D A px) args s mc ms A) (F0 m pc ls rest) q :=
  vx_out (fun x h => (htb x h).elim) hlk hcell hv hcl (fun t ht _ => ⟨ws, trivial, ⟨hp, by show va_P D vwCl ws t.heap; rw [ht]; exact hw.1, hw.2.1⟩, hw.2.2.F ht⟩) hw.2.2.2.2 h1 h2
theorem x_hx {px : String → va_W → Prop} {cls : String} (hw : Wd D A s H locs ws) (hp : px cls ws) : ∀ t : State, s.vm.Alike t.vm → H.size ≤ t.heap.size → (∀ q : Nat, q < H.size → t.heap[q]? = H[q]?) → XB D A px cls s t :=
  fun t _ h1 h2 => ⟨ws, trivial, ⟨hp, hw.1.kept (fun k q hk => h2 q.1 (hw.1 k q hk).lt), hw.2.1⟩, Nat.le_trans hw.2.2.1 h1, fun q g1 g2 => (h2 q (Nat.lt_of_lt_of_le g1 hw.2.2.1)).trans (hw.2.2.2.1 q g1 g2)⟩
end CK
section CR
variable {p : Program} {l : Launch} {e : Env} {R : Room} {s : State} {m : MethodId} {args : Array Value} {below : List Frame} {meth : Method} {c : Code} {H : Heap} {locs : List Loc} {cells slots : Nat}
variable {pc : Nat} {ls : Array Slot} {As rest st0 : List Value} {D : va_G} {tys : List (ClassId × FieldType)} {b0 : Nat} {adK adV : Nat → Nat} {A : Nat → Prop} {ws wc : va_W}
variable {y : MethodName} {bytes cc : ByteArray} {maxL nL mc ms n index : Nat} {ret : Option FieldType} {wl Ts : List Cond} {rm : Room} {Qc : Array Value → State → Outcome → State → Prop} {XC : String → State → State → Prop} {free : Addr → Prop} {own C host : String} {b : Addr}
theorem j_V (S : CallFix p m c cc nL s args Ts own) (hM : Met l y wl rm (Pq D tys b0 adK adV (.ref b :: As) wc H.size) Qc mc ms free) (cw : CallW R s args own C index y bytes maxL ret wl rm mc ms n) (hc : Cx D tys b0 adK adV A s) (hw : Wd D A s H locs ws) (isC : List Nat) (hnC : va_nd isC = true) (hC : isC.map (fun i => ws[i]?) = wc.map some) (ci q0 : Nat) {q : vw_C} {fs : List Value} (hcl : vwCl[ci]? = some q) (he : ws[q0]? = some (b, .inr (ci, fs))) (hq : q.1 = C)
    (hn : As.length = n) (hsize : ls.size = nL) (hst : st0 = As.reverse ++ .ref b :: rest) (hW : (rest.map fun v => v.category).sum ≤ 8) (hdg : decode cc pc = .ok (.invokevirtual index, 3)) (hf : cells + mc ≤ R.cells ∧ slots + ms ≤ R.slots) :
    va_Run p l e R s m args below meth c H locs cells slots mc ms (F0 m pc ls st0) rest (Qc (Value.ref b :: As).toArray) free :=
  va_runV S hM cw ⟨pq_blind, hq ▸ va_recv hc.1 hw.1 hcl he, cx_pre hc hw isC hnC hC _⟩ rfl hn hsize hst (lv_room hW) hdg hf
theorem jx_V (S : CallFix p m c cc nL s args Ts own) (hM : vx_Met l y wl rm (Pq D tys b0 adK adV (.ref b :: As) wc H.size) Qc XC mc ms free) (cw : CallW R s args own C index y bytes maxL ret wl rm mc ms n) (hc : Cx D tys b0 adK adV A s) (hw : Wd D A s H locs ws) (isC : List Nat) (hnC : va_nd isC = true) (hC : isC.map (fun i => ws[i]?) = wc.map some) (ci q0 : Nat) {q : vw_C} {fs : List Value} (hcl : vwCl[ci]? = some q) (he : ws[q0]? = some (b, .inr (ci, fs))) (hq : q.1 = C)
    (hn : As.length = n) (hsize : ls.size = nL) (hst : st0 = As.reverse ++ .ref b :: rest) (hW : (rest.map fun v => v.category).sum ≤ 8) (hdg : decode cc pc = .ok (.invokevirtual index, 3)) (hf : cells + mc ≤ R.cells ∧ slots + ms ≤ R.slots) :
    vx_Run p l e R s m args below meth c H locs cells slots mc ms (F0 m pc ls st0) rest (Qc (Value.ref b :: As).toArray) XC free :=
  vx_runV S hM cw ⟨pq_blind, hq ▸ va_recv hc.1 hw.1 hcl he, cx_pre hc hw isC hnC hC _⟩ rfl hn hsize hst (lv_room hW) hdg hf
theorem j_S (S : CallFix p m c cc nL s args Ts own) (hM : Met l y wl rm (Pq D tys b0 adK adV As wc H.size) Qc mc ms free) (cw : CallB R s args own index y bytes maxL ret wl rm mc ms n ∧ (Cond.static y).before args s = true) (hc : Cx D tys b0 adK adV A s) (hw : Wd D A s H locs ws) (isC : List Nat) (hnC : va_nd isC = true) (hC : isC.map (fun i => ws[i]?) = wc.map some)
    (hn : As.length = n) (hsize : ls.size = nL) (hst : st0 = As.reverse ++ rest) (hW : (rest.map fun v => v.category).sum ≤ 8) (hdg : decode cc pc = .ok (.invokestatic index, 3)) (hf : cells + mc ≤ R.cells ∧ slots + ms ≤ R.slots) :
    va_Run p l e R s m args below meth c H locs cells slots mc ms (F0 m pc ls st0) rest (Qc As.toArray) free :=
  va_runS S hM cw ⟨pq_blind, cx_pre hc hw isC hnC hC _⟩ rfl hn hsize hst (lv_room hW) hdg hf
theorem jx_S (S : CallFix p m c cc nL s args Ts own) (hM : vx_Met l y wl rm (Pq D tys b0 adK adV As wc H.size) Qc XC mc ms free) (cw : CallB R s args own index y bytes maxL ret wl rm mc ms n ∧ (Cond.static y).before args s = true) (hc : Cx D tys b0 adK adV A s) (hw : Wd D A s H locs ws) (isC : List Nat) (hnC : va_nd isC = true) (hC : isC.map (fun i => ws[i]?) = wc.map some)
    (hn : As.length = n) (hsize : ls.size = nL) (hst : st0 = As.reverse ++ rest) (hW : (rest.map fun v => v.category).sum ≤ 8) (hdg : decode cc pc = .ok (.invokestatic index, 3)) (hf : cells + mc ≤ R.cells ∧ slots + ms ≤ R.slots) :
    vx_Run p l e R s m args below meth c H locs cells slots mc ms (F0 m pc ls st0) rest (Qc As.toArray) XC free :=
  vx_runS S hM cw ⟨pq_blind, cx_pre hc hw isC hnC hC _⟩ rfl hn hsize hst (lv_room hW) hdg hf
theorem j_SN (S : CallFix p m c cc nL s args Ts own) (hM : Met l y wl rm (Pq D tys b0 adK adV As wc H.size) Qc mc ms free) (cw : va_CN R s args own index y host bytes maxL ret wl rm mc ms n ∧ (Cond.static y).before args s = true ∧ True) (hc : Cx D tys b0 adK adV A s) (hw : Wd D A s H locs ws) (isC : List Nat) (hnC : va_nd isC = true) (hC : isC.map (fun i => ws[i]?) = wc.map some)
    (hn : As.length = n) (hsize : ls.size = nL) (hst : st0 = As.reverse ++ rest) (hW : (rest.map fun v => v.category).sum ≤ 8) (hdg : decode cc pc = .ok (.invokestatic index, 3)) (hf : cells + mc ≤ R.cells ∧ slots + ms ≤ R.slots) :
    va_Run p l e R s m args below meth c H locs cells slots mc ms (F0 m pc ls st0) rest (Qc As.toArray) free :=
  va_runSN S hM cw ⟨pq_blind, cx_pre hc hw isC hnC hC _⟩ rfl hn hsize hst (lv_room hW) hdg hf
theorem j_I (S : CallFix p m c cc nL s args Ts own) (hM : Met l y wl rm (Pq D tys b0 adK adV (.ref b :: As) wc H.size) Qc mc ms free) (cw : CallB R s args own index y bytes maxL none wl rm mc ms n ∧ y.name = "<init>" ∧ (Cond.instanceMethod y).before args s = true) (hc : Cx D tys b0 adK adV A s) (hw : Wd D A s H locs ws) (isC : List Nat) (hnC : va_nd isC = true) (hC : isC.map (fun i => ws[i]?) = wc.map some)
    (hn : As.length = n) (hsize : ls.size = nL) (hst : st0 = As.reverse ++ .ref b :: rest) (hW : (rest.map fun v => v.category).sum ≤ 8) (hdg : decode cc pc = .ok (.invokespecial index, 3)) (hf : cells + mc ≤ R.cells ∧ slots + ms ≤ R.slots) :
    va_Run p l e R s m args below meth c H locs cells slots mc ms (F0 m pc ls st0) rest (Qc (Value.ref b :: As).toArray) free :=
  va_runI S hM cw ⟨pq_blind, cx_pre hc hw isC hnC hC _⟩ rfl hn hsize hst (lv_room hW) hdg hf
theorem j_IN (S : CallFix p m c cc nL s args Ts own) (hM : Met l y wl rm (Pq D tys b0 adK adV (.ref b :: As) wc H.size) Qc mc ms free) (cw : va_CN R s args own index y host bytes maxL none wl rm mc ms n ∧ y.name = "<init>" ∧ (Cond.instanceMethod y).before args s = true) (hc : Cx D tys b0 adK adV A s) (hw : Wd D A s H locs ws) (isC : List Nat) (hnC : va_nd isC = true) (hC : isC.map (fun i => ws[i]?) = wc.map some)
    (hn : As.length = n) (hsize : ls.size = nL) (hst : st0 = As.reverse ++ .ref b :: rest) (hW : (rest.map fun v => v.category).sum ≤ 8) (hdg : decode cc pc = .ok (.invokespecial index, 3)) (hf : cells + mc ≤ R.cells ∧ slots + ms ≤ R.slots) :
    va_Run p l e R s m args below meth c H locs cells slots mc ms (F0 m pc ls st0) rest (Qc (Value.ref b :: As).toArray) free :=
  va_runIN S hM cw ⟨pq_blind, cx_pre hc hw isC hnC hC _⟩ rfl hn hsize hst (lv_room hW) hdg hf
end CR
/-- a method that answers a known cell -/
def Br (D : va_G) (A : Nat → Prop) (a0 : Nat) : va_W → Nat → State → Prop := fun w a t => a = a0 ∧ va_P D vwCl w t.heap ∧ va_D A w
def Mr (l : Launch) (y : MethodName) (wl : List Cond) (rm : Room) (D : va_G) (tys : List (ClassId × FieldType)) (b0 : Nat) (adK adV : Nat → Nat) (av : List Value) (ws : va_W) (post : va_W → Prop) (a0 : Nat) (mc ms : Nat) : Prop :=
  ∀ sz : Nat, Met l y wl rm (Pq D tys b0 adK adV av ws sz) (va_Qr post (Br D (va_A ws sz) a0) (va_A ws sz)) mc ms (va_A ws sz)
section CKr
variable {p : Program} {l : Launch} {e : Env} {R : Room} {s : State} {m : MethodId} {args : Array Value} {below : List Frame} {meth : Method} {c : Code} {H : Heap} {locs : List Loc} {cells slots : Nat} {Q : State → Prop}
variable {cc : ByteArray} {pc : Nat} {ls : Array Slot} {rest st0 : List Value} {D : va_G} {tys : List (ClassId × FieldType)} {b0 : Nat} {adK adV : Nat → Nat} {A : Nat → Prop} {ws wc wr : va_W} {mc ms : Nat} {a : Array Value}
theorem r_r {post : va_W → Prop} {a0 : Nat} {nm : String} (hx : p.tables.exec = Jvm.exec) (hb : c.code = cc) (hr : meth.sig.returnType = some (.object nm)) (hlk : meth.locks = false) (hw : Wd D A s H locs ws) (hq : post ws) (hdg : decode cc pc = .ok (.areturn, 1)) : W p l e R s m args below meth c H locs cells slots (MQ below (va_Qr post (Br D A a0) A) args s cells slots A) (F0 m pc ls [.ref a0]) :=
  W.aret hx hb hr (Or.inl ⟨_, rfl⟩) (Or.inr ⟨_, rfl⟩) (fun t ht _ => ⟨⟨ws, a0, rfl, hq, rfl, by rw [ht]; exact hw.1, hw.2.1⟩, hw.2.2.F ht⟩) hw.2.2.2.2 hdg hlk
theorem k_r {post : va_W → Prop} {a0 : Nat} (hr : va_Run p l e R s m args below meth c H locs cells slots mc ms (F0 m pc ls st0) rest (va_Qr post (Br D (va_A wc H.size) a0) (va_A wc H.size) a) (va_A wc H.size)) (hc : Cx D tys b0 adK adV A s) (hw : Wd D A s H locs ws) (isC isR : List Nat) (hC : isC.map (fun i => ws[i]?) = wc.map some) (hR : isR.map (fun i => ws[i]?) = wr.map some) (hn : va_nd isR = true) (hdis : ∀ i ∈ isR, i ∉ isC)
    (kk : ∀ (w : va_W) (H1 : Heap) (locs1 : List Loc), post w → Wd D A s H1 locs1 (wr ++ w) → W p l e R s m args below meth c H1 locs1 (cells + mc) (slots + ms) Q (F0 m (pc + 3) ls (.ref a0 :: rest))) : W p l e R s m args below meth c H locs cells slots Q (F0 m pc ls st0) := by
  have hF := va_free hw.2.1 hw.2.2 hc.2.1 isC hC
  refine va_callr hr hw.2.2 (fun q _ h => hF q h) hF (fun w a1 t H1 locs1 ht hvm hp hB hz hk hS => ?_)
  obtain ⟨rfl, hP1, hD1⟩ := hB
  rw [ht] at hP1
  obtain ⟨hP, hD⟩ := va_join hw.1 hw.2.1 isC isR hC hR hn hdis hk hF hP1 hD1
  exact kk w H1 locs1 hp ⟨hP, hD, hS⟩
end CKr
