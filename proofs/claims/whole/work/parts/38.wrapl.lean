/-! the law's wrappers: a static method with an exception table -/
theorem e_W {l : Launch} {y : MethodName} {wl wl' : List Cond} {rm : Room} {D : va_G} {tys : List (ClassId × FieldType)} {b0 : Nat} {adK adV : Nat → Nat} {av : List Value} {ws : va_W} {mc ms maxL : Nat} {cc : ByteArray} {ret : Option FieldType} {hh : List (Nat × Nat × Nat × Nat)} {Qf : (Nat → Prop) → Array Value → State → Outcome → State → Prop}
    (hy : plainName y.cls = true) (hw : wl = Cond.codeWith y cc maxL ret hh :: wl') (hlen : (lg_sl av).length ≤ maxL)
    (body : ∀ (p : Program) (e : Env) (s : State) (m : MethodId) (args : Array Value) (below : List Frame) (meth : Method) (c : Code) (ls : Array Slot) (A : Nat → Prop) (Q : State → Prop) (H : Heap) (locs : List Loc), p.tables.exec = Jvm.exec → c.code = cc → meth.sig.returnType = ret → c.maxLocals = maxL → c.exceptionTable.toList = tableOf hh → (∀ w ∈ wl, w.before args s = true) → s.vm.findClass y.cls = some m.cls → meth.locks = false → meth.name = y.name → Cx D tys b0 adK adV A s → Wd D A s H locs ws → lv_has ls maxL (lv_args 0 av) → Q = MQ below (Qf A) args s mc ms A →
      W p l e rm s m args below meth c H locs 0 0 Q (F0 m 0 ls [])) (sz : Nat) : Met l y wl rm (Pq D tys b0 adK adV av ws sz) (Qf (va_A ws sz)) mc ms (va_A ws sz) := by
  refine va_MetW (cc := cc) (maxL := maxL) (ret := ret) (hh := hh) hy hw ?_
  intro p e s m args below meth c s₁ B hml hv
  have htb : c.exceptionTable.toList = tableOf hh := vx_table (x := y) B (atoms_spec (ws := wl) B.pre _ (by rw [hw]; exact List.mem_cons_self))
  obtain ⟨rfl, hsz, hP, hK, hD0, hb0, hAm⟩ := hv
  subst hsz
  have hl := lv_entry av (n := maxL) hlen
  rw [lg_entry_eq]
  exact body p e s m av.toArray below meth c _ (va_A ws s.heap.size) _ s.heap [] B.exec B.bytes B.returns hml htb (atoms_spec (ws := wl) B.pre) (findClass_of_methodNamed B.named) B.notSynchronized (name_of_methodNamed B.named B.method).1 ⟨hK, fun q h => Or.inr h, fun q h => h.elim (fun ⟨k, e9, hk⟩ => hD0.2 k (q, e9) hk) (fun h => Nat.le_trans hb0 h), hb0, hAm⟩ ⟨hP, hD0.self, va_S.rf⟩ hl rfl
section WL
variable {p : Program} {l : Launch} {e : Env} {R : Room} {s : State} {m : MethodId} {args : Array Value} {below : List Frame} {meth : Method} {c : Code} {H : Heap} {locs : List Loc} {cells slots : Nat} {Q : State → Prop}
variable {cc : ByteArray} {pc : Nat} {ls : Array Slot} {rest : List Value} {D : va_G} {tys : List (ClassId × FieldType)} {b0 : Nat} {adK adV : Nat → Nat} {A : Nat → Prop} {ws : va_W} {a : Nat}
theorem w_last (hx : p.tables.exec = Jvm.exec) (hb : c.code = cc) (hc : Cx D tys b0 adK adV A s) (hw : Wd D A s H locs ws) (q0 : Nat) {cA : ClassId} {n : Nat} {f : Nat → Int64} (ha : ws[q0]? = some (a, .inl (cA, n, .inr (.inl f)))) (ht : tys[3]? = some (cA, .long)) {i : Nat} {x : Int64} (hi : i < n) (hn : n < 2 ^ 31) {ws1 : va_W} (hs : ws.set q0 (a, .inl (cA, n, .inr (.inl (vp_updL f i x)))) = ws1) (hdg : decode cc pc = .ok (.lastore, 1))
    (kk : ∀ (H1 : Heap) (locs1 : List Loc), Wd D A s H1 locs1 ws1 → W p l e R s m args below meth c H1 locs1 cells slots Q (F0 m (pc + 1) ls rest)) : W p l e R s m args below meth c H locs cells slots Q (F0 m pc ls (.long x :: .int (nI i) :: .ref a :: rest)) :=
  va_last hx hb hc.1 hw.1 hw.2.1 hw.2.2 q0 3 ha ht (vp_in_nI hi hn) hdg (by rw [nI_clamp (Nat.lt_trans hi hn)]; exact fun H1 locs1 h1 h2 h3 => kk H1 locs1 ⟨hs ▸ h1, hs ▸ h2, h3⟩)
theorem w_lald (hx : p.tables.exec = Jvm.exec) (hb : c.code = cc) (hc : Cx D tys b0 adK adV A s) (hw : Wd D A s H locs ws) (q0 : Nat) {cA : ClassId} {n : Nat} {f : Nat → Int64} (ha : ws[q0]? = some (a, .inl (cA, n, .inr (.inl f)))) (ht : tys[3]? = some (cA, .long)) {i : Nat} (hi : i < n) (hn : n < 2 ^ 31) (hdg : decode cc pc = .ok (.laload, 1))
    (kk : W p l e R s m args below meth c H locs cells slots Q (F0 m (pc + 1) ls (.long (f i) :: rest))) : W p l e R s m args below meth c H locs cells slots Q (F0 m pc ls (.int (nI i) :: .ref a :: rest)) :=
  va_lald hx hb hc.1 hw.1 q0 3 ha ht (vp_in_nI hi hn) hdg (by rw [nI_clamp (Nat.lt_trans hi hn)]; exact kk)
/-- two answers that are one -/
theorem w_lcmp0 (hx : p.tables.exec = Jvm.exec) (hb : c.code = cc) {x y : Int64} (hxy : x = y) (hdg : decode cc pc = .ok (.lcmp, 1))
    (k : W p l e R s m args below meth c H locs cells slots Q (F0 m (pc + 1) ls (.int (nI 0) :: rest))) : W p l e R s m args below meth c H locs cells slots Q (F0 m pc ls (.long y :: .long x :: rest)) := by
  subst hxy
  refine W.lcmp hx hb hdg ?_
  rw [show lg_cmp x x = nI 0 by simp [lg_cmp]; rfl]
  exact k
theorem w_topl {x y : Int64} (h : x = y) (k : W p l e R s m args below meth c H locs cells slots Q (F0 m pc ls (.long y :: rest))) : W p l e R s m args below meth c H locs cells slots Q (F0 m pc ls (.long x :: rest)) := by rw [h]; exact k
end WL
theorem updL_0 (f : Nat → Int64) (x : Int64) : vp_updL f 0 x 0 = x := by simp [vp_updL]
