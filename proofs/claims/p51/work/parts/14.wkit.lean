/-! contracts of methods that write their own object: the world wd becomes wd' -/
section KW
def QW (r : Option Value) (G : GT) (wd' : va_W) (A : Nat → Prop) : Array Value → State → Outcome → State → Prop := fun _ st o t => o = .returned r ∧ va_P (gD G) vwCl wd' t.heap ∧ va_D A wd' ∧ va_F A st t
abbrev PW (G : GT) (as : List Value) (wd : va_W) (sz : Nat) : Array Value → State → Prop := fun v U => v = as.toArray ∧ U.heap.size = sz ∧ EV G U U.heap ∧ va_P (gD G) vwCl wd U.heap ∧ va_D (gA G) wd
def WR (l : Launch) (G : GT) (y : MethodName) (b : ByteArray) (maxL : Nat) (ret : Option FieldType) (k mc ms : Nat) (as : List Value) (wd wd' : va_W) (r : Option Value) : Prop := ∀ sz : Nat, Met l y (Cond.code y b maxL ret :: BW) (rmK k mc ms) (PW G as wd sz) (QW r G wd' (va_A wd sz)) mc ms (va_A wd sz)
theorem PW.blind {G : GT} {as : List Value} {wd : va_W} {sz : Nat} : FrameBlind (PW G as wd sz) := fun a U g mk q => ⟨q.1, q.2.1, EV.same (U := U.calling g mk a) rfl q.2.2.1, q.2.2.2⟩
theorem WR.ofW {l : Launch} {G : GT} {y : MethodName} {b : ByteArray} {maxL : Nat} {ret : Option FieldType} {k mc ms : Nat} {as : List Value} {wd wd' : va_W} {r : Option Value} {own : String} (hc : y.cls = own) (hy : plainFor y = true) (hn : (lg_sl as).length ≤ maxL)
    (body : ∀ (p : Program) (e : Env) (s : State) (m : MethodId) (below : List Frame) (meth : Method) (c : Code) (A : Nat → Prop), CallFix p m c b maxL s as.toArray BW own → meth.sig.returnType = ret → meth.locks = false → meth.name = y.name → EV G s s.heap → va_P (gD G) vwCl wd s.heap → va_D A wd → (∀ q : Nat, s.heap.size ≤ q → A q) → (∀ q : Nat, A q → gB G ≤ q) → va_S A s.heap s.heap [] → ∀ ls : Array Slot, lv_has ls maxL (lv_args 0 as) →
      W p l e (rmK k mc ms) s m as.toArray below meth c s.heap [] 0 0 (MQ below (QW r G wd' A) as.toArray s mc ms A) (F0 m 0 ls [])) : WR l G y b maxL ret k mc ms as wd wd' r := by
  intro sz
  refine va_MetF (cc := b) (maxL := maxL) (ret := ret) hy rfl ?_
  intro p e s m args below meth c s₁ B hml hv
  obtain ⟨rfl, hsz, hE, hP, hD⟩ := hv
  subst hsz
  have hts := atoms_spec (ws := Cond.code y b maxL ret :: BW) B.pre
  have hl := lv_entry as (n := maxL) hn
  rw [lg_entry_eq]
  refine body p e s m below meth c (va_A wd s.heap.size) ⟨B.exec, B.bytes, hml, ?_, fun w hw => hts w (List.mem_cons_of_mem _ hw)⟩ B.returns B.notSynchronized (name_of_methodNamed B.named B.method).1 hE hP hD.self (fun q h => Or.inr h) ?_ va_S.rf _ hl
  · rw [← hc]
    exact findClass_of_methodNamed B.named
  · intro q h
    rcases h with ⟨j, x, h⟩ | h
    · exact hD.2 j _ h
    · exact Nat.le_trans hE.2.1 h
variable {p : Program} {l : Launch} {e : Env} {R : Room} {s : State} {m : MethodId} {args : Array Value} {below : List Frame} {meth : Method} {c : Code} {H : Heap} {locs : List Loc} {cells slots : Nat} {Q : State → Prop}
variable {cc : ByteArray} {pc : Nat} {ls : Array Slot} {rest st0 : List Value} {G : GT} {a : Array Value}
theorem va_S.wide {A B : Nat → Prop} {H0 H : Heap} {locs : List Loc} (h : va_S A H0 H locs) (hAB : ∀ q, A q → B q) : va_S B H0 H locs := ⟨h.1, fun q h1 h2 => h.2.1 q h1 (fun z => h2 (hAB q z)), fun l hl => hAB _ (h.2.2 l hl)⟩
theorem wc0 {r : Option Value} {wd' : va_W} {mc ms : Nat} {A A1 : Nat → Prop} {H0 : Heap} (hr : va_Run p l e R s m args below meth c H locs cells slots mc ms (F0 m pc ls st0) rest (QW r G wd' A1 a) A1) (hS : va_S A H0 H locs) (hf : ∀ q, A1 q → A q)
    (kk : ∀ (H1 : Heap) (locs1 : List Loc), H.size ≤ H1.size → (∀ q : Nat, q < H.size → ¬ A1 q → H1[q]? = H[q]?) → va_P (gD G) vwCl wd' H1 → va_D A1 wd' → va_S A H0 H1 locs1 → W p l e R s m args below meth c H1 locs1 (cells + mc) (slots + ms) Q (F0 m (pc + 3) ls (r.toList ++ rest))) : W p l e R s m args below meth c H locs cells slots Q (F0 m pc ls st0) := by
  intro T hT X
  obtain ⟨v, st₀, t, T', L, h0, X', hL, e1, e2, ⟨hv, hp, hd, hz, hk⟩, st⟩ := hr T hT X
  cases hv
  rw [h0] at hz hk
  obtain ⟨t2, a1, b1⟩ := kk T'.heap (locs ++ L) (by rw [e1]; exact hz) (fun q h1 h2 => by rw [e1]; exact hk q h1 h2) (by rw [e1]; exact hp) hd
    ⟨Nat.le_trans hS.1 (by rw [e1]; exact hz), fun q h1 h2 => by rw [e1, hk q (Nat.lt_of_lt_of_le h1 hS.1) (fun z => h2 (hf q z))]; exact hS.2.1 q h1 h2, fun q hq => by
      rcases List.mem_append.mp hq with h | h
      · exact hS.2.2 q h
      · exact hf _ (hL q h)⟩ T' rfl X'
  exact ⟨t2, st t2 a1, b1⟩
theorem wfree {A : Nat → Prop} {wd : va_W} {H0 : Heap} (hD : va_D A wd) (hS : va_S A H0 H locs) (hA : ∀ q : Nat, H0.size ≤ q → A q) : ∀ q, va_A wd H.size q → A q := by
  intro q h
  rcases h with ⟨j, x, h⟩ | h
  · exact hD.2 j _ h
  · exact hA q (Nat.le_trans hS.1 h)
/-- a call of a method that writes the whole world that we hold -/
theorem wcV {own : String} {nL index : Nat} {y : MethodName} {b : ByteArray} {maxL k n mc ms : Nat} {ret : Option FieldType} {o : Nat} {as : List Value} {wd wd' : va_W} {r : Option Value} {cl : String} {A : Nat → Prop} (C : CallFix p m c cc nL s args BW own) (hM : WR l G y b maxL ret k mc ms (.ref o :: as) wd wd' r) (F : CF y b maxL ret n) (hn : as.length = n) (hL : Cond.methodLink own index y ∈ BW) (hst : Cond.instanceMethod y ∈ BW) (hse : Cond.selects cl y y ∈ BW) (hE : EV G s H) (hP : va_P (gD G) vwCl wd H) (hD : va_D A wd) (hS : va_S A s.heap H locs) (hA : ∀ q : Nat, s.heap.size ≤ q → A q) (hAB : ∀ q : Nat, A q → gB G ≤ q)
    (hrv : ∃ cellB : Cell, H[o]? = some cellB ∧ cellB.vm.isStatics = false ∧ s.vm.findClass cl = some cellB.cls)
    (hl : ls.size = nL) (hdg : decode cc pc = .ok (.invokevirtual index, 3)) (hR : (rmK k mc ms).frames + 1 ≤ R.frames ∧ 16 + (maxL + 11) + (rmK k mc ms).locals ≤ R.locals) (hs0 : st0 = as.reverse ++ .ref o :: rest) (hW : (rest.map fun v => v.category).sum ≤ 16) (hf : cells + mc ≤ R.cells ∧ slots + ms ≤ R.slots)
    (kk : ∀ (H1 : Heap) (locs1 : List Loc), va_P (gD G) vwCl wd' H1 → va_D A wd' → va_S A s.heap H1 locs1 → W p l e R s m args below meth c H1 locs1 (cells + mc) (slots + ms) Q (F0 m (pc + 3) ls (r.toList ++ rest))) : W p l e R s m args below meth c H locs cells slots Q (F0 m pc ls st0) :=
  wc0 (xrunV (As := as) (rest := rest) (C := cl) C (hM H.size) F hL hst hse rfl rfl hR ⟨PW.blind, hrv, fun U hU hW => ⟨rfl, by rw [hU], by rw [hU]; exact EV.warm hW hE, by rw [hU]; exact hP, hD.weaken (fun _ q _ h => hAB q.1 h)⟩⟩ rfl hn hl hs0 (k_room hW) hdg hf) hS (wfree hD hS hA)
    (fun H1 locs1 _ _ hP1 hD1 hS1 => kk H1 locs1 hP1 (hD1.weaken (fun _ q _ h => wfree hD hS hA q.1 h)) hS1)
theorem wcVi {own : String} {nL index : Nat} {y : MethodName} {b : ByteArray} {maxL k n mc ms : Nat} {ret : Option FieldType} {o : Nat} {as : List Value} {wd wd' : va_W} {v : Int32} {cl : String} {A : Nat → Prop} (C : CallFix p m c cc nL s args BW own) (hM : WR l G y b maxL ret k mc ms (.ref o :: as) wd wd' (some (.int v))) (F : CF y b maxL ret n) (hn : as.length = n) (hL : Cond.methodLink own index y ∈ BW) (hst : Cond.instanceMethod y ∈ BW) (hse : Cond.selects cl y y ∈ BW) (hE : EV G s H) (hP : va_P (gD G) vwCl wd H) (hD : va_D A wd) (hS : va_S A s.heap H locs) (hA : ∀ q : Nat, s.heap.size ≤ q → A q) (hAB : ∀ q : Nat, A q → gB G ≤ q)
    (hrv : ∃ cellB : Cell, H[o]? = some cellB ∧ cellB.vm.isStatics = false ∧ s.vm.findClass cl = some cellB.cls)
    (hl : ls.size = nL) (hdg : decode cc pc = .ok (.invokevirtual index, 3)) (hR : (rmK k mc ms).frames + 1 ≤ R.frames ∧ 16 + (maxL + 11) + (rmK k mc ms).locals ≤ R.locals) (hs0 : st0 = as.reverse ++ .ref o :: rest) (hW : (rest.map fun v => v.category).sum ≤ 16) (hf : cells + mc ≤ R.cells ∧ slots + ms ≤ R.slots)
    (kk : ∀ (H1 : Heap) (locs1 : List Loc), va_P (gD G) vwCl wd' H1 → va_D A wd' → va_S A s.heap H1 locs1 → W p l e R s m args below meth c H1 locs1 (cells + mc) (slots + ms) Q (F0 m (pc + 3) ls (.int v :: rest))) : W p l e R s m args below meth c H locs cells slots Q (F0 m pc ls st0) :=
  wcV C hM F hn hL hst hse hE hP hD hS hA hAB hrv hl hdg hR hs0 hW hf kk
/-- ends -/
theorem we_i {σ : Type} {wf : σ → va_W} {g : Int32 × σ} {v : Int32} {S : σ} {mc ms : Nat} {A : Nat → Prop} (hx : p.tables.exec = Jvm.exec) (hb : c.code = cc) (hr : meth.sig.returnType = some .int) (hk : meth.locks = false) (hP : va_P (gD G) vwCl (wf S) H) (hD : va_D A (wf S)) (hS : va_S A s.heap H locs) (h1 : cells ≤ mc) (h2 : slots ≤ ms) (hdg : decode cc pc = .ok (.ireturn, 1)) (er : g = (v, S)) : W p l e R s m args below meth c H locs cells slots (MQ below (QW (some (.int g.1)) G (wf g.2) A) args s mc ms A) (F0 m pc ls [.int v]) := by
  subst er
  exact W.widen h1 h2 (W.iret hx hb hr (fun t ht _ => ⟨rfl, by rw [ht]; exact hP, hD, hS.F ht⟩) hS.2.2 hdg hk)
theorem we_z {σ : Type} {wf : σ → va_W} {g : Int32 × σ} {v : Int32} {S : σ} {mc ms : Nat} {A : Nat → Prop} {ty : FieldType} (hx : p.tables.exec = Jvm.exec) (hb : c.code = cc) (hr : meth.sig.returnType = some ty) (hk : meth.locks = false) (hn : narrow ty (.int v) = .int v) (hP : va_P (gD G) vwCl (wf S) H) (hD : va_D A (wf S)) (hS : va_S A s.heap H locs) (h1 : cells ≤ mc) (h2 : slots ≤ ms) (hdg : decode cc pc = .ok (.ireturn, 1)) (er : g = (v, S)) : W p l e R s m args below meth c H locs cells slots (MQ below (QW (some (.int g.1)) G (wf g.2) A) args s mc ms A) (F0 m pc ls [.int v]) := by
  subst er
  exact W.widen h1 h2 (W.zret hx hb hr hn (fun t ht _ => ⟨rfl, by rw [ht]; exact hP, hD, hS.F ht⟩) hS.2.2 hdg hk)
theorem we_l {σ : Type} {wf : σ → va_W} {g : Int64 × σ} {v : Int64} {S : σ} {mc ms : Nat} {A : Nat → Prop} (hx : p.tables.exec = Jvm.exec) (hb : c.code = cc) (hr : meth.sig.returnType = some .long) (hk : meth.locks = false) (hP : va_P (gD G) vwCl (wf S) H) (hD : va_D A (wf S)) (hS : va_S A s.heap H locs) (h1 : cells ≤ mc) (h2 : slots ≤ ms) (hdg : decode cc pc = .ok (.lreturn, 1)) (er : g = (v, S)) : W p l e R s m args below meth c H locs cells slots (MQ below (QW (some (.long g.1)) G (wf g.2) A) args s mc ms A) (F0 m pc ls [.long v]) := by
  subst er
  exact W.widen h1 h2 (W.lret hx hb hr (fun t ht _ => ⟨rfl, by rw [ht]; exact hP, hD, hS.F ht⟩) hS.2.2 hdg hk)
end KW
/-! contracts of methods that make cells and hand one back: nothing old is changed -/
section KM
def MK (l : Launch) (G : GT) (y : MethodName) (b : ByteArray) (maxL : Nat) (ret : Option FieldType) (k mc ms : Nat) (as : List Value) (wd : va_W) (B : Nat → Heap → Prop) : Prop := ∀ sz : Nat, Met l y (Cond.code y b maxL ret :: BW) (rmK k mc ms) (fun v U => v = as.toArray ∧ U.heap.size = sz ∧ EV G U U.heap ∧ va_P (gD G) vwCl wd U.heap) (fun _ st o t => ∃ q, o = .returned (some (.ref q)) ∧ B q t.heap ∧ va_F (fun x => sz ≤ x) st t) mc ms (fun x => sz ≤ x)
theorem MK.ofW {l : Launch} {G : GT} {y : MethodName} {b : ByteArray} {maxL : Nat} {ret : Option FieldType} {k mc ms : Nat} {as : List Value} {wd : va_W} {B : Nat → Heap → Prop} {own : String} (hc : y.cls = own) (hy : plainFor y = true) (hn : (lg_sl as).length ≤ maxL)
    (body : ∀ (p : Program) (e : Env) (s : State) (m : MethodId) (below : List Frame) (meth : Method) (c : Code), CallFix p m c b maxL s as.toArray BW own → meth.sig.returnType = ret → meth.locks = false → EV G s s.heap → va_P (gD G) vwCl wd s.heap → va_S (fun x => s.heap.size ≤ x) s.heap s.heap [] → ∀ ls : Array Slot, lv_has ls maxL (lv_args 0 as) →
      W p l e (rmK k mc ms) s m as.toArray below meth c s.heap [] 0 0 (MQ below (fun _ st o t => ∃ q, o = .returned (some (.ref q)) ∧ B q t.heap ∧ va_F (fun x => s.heap.size ≤ x) st t) as.toArray s mc ms (fun x => s.heap.size ≤ x)) (F0 m 0 ls [])) : MK l G y b maxL ret k mc ms as wd B := by
  intro sz
  refine va_MetF (cc := b) (maxL := maxL) (ret := ret) hy rfl ?_
  intro p e s m args below meth c s₁ B' hml hv
  obtain ⟨rfl, hsz, hE, hP⟩ := hv
  subst hsz
  have hts := atoms_spec (ws := Cond.code y b maxL ret :: BW) B'.pre
  have hl := lv_entry as (n := maxL) hn
  rw [lg_entry_eq]
  refine body p e s m below meth c ⟨B'.exec, B'.bytes, hml, ?_, fun w hw => hts w (List.mem_cons_of_mem _ hw)⟩ B'.returns B'.notSynchronized hE hP va_S.rf _ hl
  rw [← hc]
  exact findClass_of_methodNamed B'.named
variable {p : Program} {l : Launch} {e : Env} {R : Room} {s : State} {m : MethodId} {args : Array Value} {below : List Frame} {meth : Method} {c : Code} {H : Heap} {locs : List Loc} {cells slots : Nat} {Q : State → Prop}
variable {cc : ByteArray} {pc : Nat} {ls : Array Slot} {rest st0 : List Value} {G : GT} {a : Array Value}
theorem mk0 {mc ms sz : Nat} {A : Nat → Prop} {H0 : Heap} {B : Nat → Heap → Prop} (hz0 : sz = H.size) (hr : va_Run p l e R s m args below meth c H locs cells slots mc ms (F0 m pc ls st0) rest (fun st o t => ∃ q, o = .returned (some (.ref q)) ∧ B q t.heap ∧ va_F (fun x => sz ≤ x) st t) (fun x => sz ≤ x)) (hS : va_S A H0 H locs) (hA : ∀ q : Nat, H0.size ≤ q → A q)
    (kk : ∀ (q : Nat) (H1 : Heap) (locs1 : List Loc), H.size ≤ H1.size → (∀ x : Nat, x < H.size → H1[x]? = H[x]?) → B q H1 → va_S A H0 H1 locs1 → W p l e R s m args below meth c H1 locs1 (cells + mc) (slots + ms) Q (F0 m (pc + 3) ls (.ref q :: rest))) : W p l e R s m args below meth c H locs cells slots Q (F0 m pc ls st0) := by
  subst hz0
  intro T hT X
  obtain ⟨v, st₀, t, T', L, h0, X', hL, e1, e2, ⟨q, hv, hb, hz, hk⟩, st⟩ := hr T hT X
  cases hv
  rw [h0] at hz hk
  have ho : ∀ x : Nat, x < H.size → T'.heap[x]? = H[x]? := fun x hx => by rw [e1]; exact hk x hx (fun z => absurd z (Nat.not_le.mpr hx))
  obtain ⟨t2, a1, b1⟩ := kk q T'.heap (locs ++ L) (by rw [e1]; exact hz) ho (by rw [e1]; exact hb)
    ⟨Nat.le_trans hS.1 (by rw [e1]; exact hz), fun x h1 h2 => by rw [ho x (Nat.lt_of_lt_of_le h1 hS.1)]; exact hS.2.1 x h1 h2, fun x hx => by
      rcases List.mem_append.mp hx with h | h
      · exact hS.2.2 x h
      · exact hA _ (Nat.le_trans hS.1 (hL x h))⟩ T' rfl X'
  exact ⟨t2, st t2 a1, b1⟩
theorem P_old {D : va_G} {cl : List vw_C} {wd : va_W} {H1 : Heap} (hP : va_P D cl wd H) (ho : ∀ x : Nat, x < H.size → H1[x]? = H[x]?) : va_P D cl wd H1 := hP.kept (fun k q hk => ho q.1 ((hP k q hk).lt))
theorem mkS {own : String} {nL index : Nat} {y : MethodName} {b : ByteArray} {maxL k n mc ms : Nat} {ret : Option FieldType} {as : List Value} {wd0 wd : va_W} {B : Nat → Heap → Prop} {A : Nat → Prop} (C : CallFix p m c cc nL s args BW own) (hM : MK l G y b maxL ret k mc ms as wd0 B) (F : CF y b maxL ret n) (hn : as.length = n) (hL : Cond.methodLink own index y ∈ BW) (hst : Cond.static y ∈ BW) (hE : EV G s H) (hP0 : va_P (gD G) vwCl wd0 H) (hP : va_P (gD G) vwCl wd H) (hS : va_S A s.heap H locs) (hA : ∀ q : Nat, s.heap.size ≤ q → A q)
    (hl : ls.size = nL) (hdg : decode cc pc = .ok (.invokestatic index, 3)) (hR : (rmK k mc ms).frames + 1 ≤ R.frames ∧ 16 + (maxL + 11) + (rmK k mc ms).locals ≤ R.locals) (hs0 : st0 = as.reverse ++ rest) (hW : (rest.map fun v => v.category).sum ≤ 16) (hf : cells + mc ≤ R.cells ∧ slots + ms ≤ R.slots)
    (kk : ∀ (q : Nat) (H1 : Heap) (locs1 : List Loc), (∀ x : Nat, x < H.size → H1[x]? = H[x]?) → H.size ≤ H1.size → va_P (gD G) vwCl wd H1 → B q H1 → va_S A s.heap H1 locs1 → W p l e R s m args below meth c H1 locs1 (cells + mc) (slots + ms) Q (F0 m (pc + 3) ls (.ref q :: rest))) : W p l e R s m args below meth c H locs cells slots Q (F0 m pc ls st0) :=
  mk0 rfl (xrunS (As := as) (rest := rest) C (hM H.size) F hL hst rfl rfl hR ⟨fun a U g mk q => ⟨q.1, q.2.1, EV.same (U := U.calling g mk a) rfl q.2.2.1, q.2.2.2⟩, fun U hU hW => ⟨rfl, by rw [hU], by rw [hU]; exact EV.warm hW hE, by rw [hU]; exact hP0⟩⟩ rfl hn hl hs0 (k_room hW) hdg hf) hS hA
    (fun q H1 locs1 hz ho hb hS1 => kk q H1 locs1 ho hz (P_old hP ho) hb hS1)
theorem mkV {own : String} {nL index : Nat} {y : MethodName} {b : ByteArray} {maxL k n mc ms : Nat} {ret : Option FieldType} {o : Nat} {as : List Value} {wd0 wd : va_W} {B : Nat → Heap → Prop} {A : Nat → Prop} {cl : String} (C : CallFix p m c cc nL s args BW own) (hM : MK l G y b maxL ret k mc ms (.ref o :: as) wd0 B) (F : CF y b maxL ret n) (hn : as.length = n) (hL : Cond.methodLink own index y ∈ BW) (hst : Cond.instanceMethod y ∈ BW) (hse : Cond.selects cl y y ∈ BW) (hE : EV G s H) (hP0 : va_P (gD G) vwCl wd0 H) (hP : va_P (gD G) vwCl wd H) (hS : va_S A s.heap H locs) (hA : ∀ q : Nat, s.heap.size ≤ q → A q)
    (hrv : ∃ cellB : Cell, H[o]? = some cellB ∧ cellB.vm.isStatics = false ∧ s.vm.findClass cl = some cellB.cls)
    (hl : ls.size = nL) (hdg : decode cc pc = .ok (.invokevirtual index, 3)) (hR : (rmK k mc ms).frames + 1 ≤ R.frames ∧ 16 + (maxL + 11) + (rmK k mc ms).locals ≤ R.locals) (hs0 : st0 = as.reverse ++ .ref o :: rest) (hW : (rest.map fun v => v.category).sum ≤ 16) (hf : cells + mc ≤ R.cells ∧ slots + ms ≤ R.slots)
    (kk : ∀ (q : Nat) (H1 : Heap) (locs1 : List Loc), (∀ x : Nat, x < H.size → H1[x]? = H[x]?) → H.size ≤ H1.size → va_P (gD G) vwCl wd H1 → B q H1 → va_S A s.heap H1 locs1 → W p l e R s m args below meth c H1 locs1 (cells + mc) (slots + ms) Q (F0 m (pc + 3) ls (.ref q :: rest))) : W p l e R s m args below meth c H locs cells slots Q (F0 m pc ls st0) :=
  mk0 rfl (xrunV (As := as) (rest := rest) (C := cl) C (hM H.size) F hL hst hse rfl rfl hR ⟨fun a U g mk q => ⟨q.1, q.2.1, EV.same (U := U.calling g mk a) rfl q.2.2.1, q.2.2.2⟩, hrv, fun U hU hW => ⟨rfl, by rw [hU], by rw [hU]; exact EV.warm hW hE, by rw [hU]; exact hP0⟩⟩ rfl hn hl hs0 (k_room hW) hdg hf) hS hA
    (fun q H1 locs1 hz ho hb hS1 => kk q H1 locs1 ho hz (P_old hP ho) hb hS1)
/-- the end of such a method -/
theorem mk_a {mc ms q : Nat} {B : Nat → Heap → Prop} {rt : FieldType} (hx : p.tables.exec = Jvm.exec) (hb : c.code = cc) (hr : meth.sig.returnType = some rt) (hrt : (∃ n, rt = .object n) ∨ ∃ t, rt = .array t) (hk : meth.locks = false) (hB : B q H) (hS : va_S (fun x => s.heap.size ≤ x) s.heap H locs) (h1 : cells ≤ mc) (h2 : slots ≤ ms) (hdg : decode cc pc = .ok (.areturn, 1)) : W p l e R s m args below meth c H locs cells slots (MQ below (fun _ st o t => ∃ q, o = .returned (some (.ref q)) ∧ B q t.heap ∧ va_F (fun x => s.heap.size ≤ x) st t) args s mc ms (fun x => s.heap.size ≤ x)) (F0 m pc ls [.ref q]) :=
  W.widen h1 h2 (W.aret hx hb hr hrt (Or.inr ⟨q, rfl⟩) (fun t ht _ => ⟨q, rfl, by rw [ht]; exact hB, hS.F ht⟩) hS.2.2 hdg hk)
theorem EV.c0 {U : State} {H : Heap} {cA : ClassId} (h : EV G U H) (hA : va_RA U cA .int) : cA = gC G 0 := by
  have h1 : U.vm.findClass ("[" ++ (FieldType.int).toString) = some cA := hA
  have h2 : U.vm.findClass ("[" ++ (FieldType.int).toString) = some (gC G 0) := (h.K.2 0 _ rfl).2
  exact Option.some.inj (h1.symm.trans h2)
theorem EV.c1 {U : State} {H : Heap} {cA : ClassId} (h : EV G U H) (hA : va_RA U cA .long) : cA = gC G 1 := by
  have h1 : U.vm.findClass ("[" ++ (FieldType.long).toString) = some cA := hA
  have h2 : U.vm.findClass ("[" ++ (FieldType.long).toString) = some (gC G 1) := (h.K.2 1 _ rfl).2
  exact Option.some.inj (h1.symm.trans h2)
theorem EV.c2 {U : State} {H : Heap} {cA : ClassId} (h : EV G U H) (hA : va_RA U cA .byte) : cA = gC G 2 := by
  have h1 : U.vm.findClass ("[" ++ (FieldType.byte).toString) = some cA := hA
  have h2 : U.vm.findClass ("[" ++ (FieldType.byte).toString) = some (gC G 2) := (h.K.2 2 _ rfl).2
  exact Option.some.inj (h1.symm.trans h2)
end KM
theorem vdn (A : Nat → Prop) : va_D A [] := ⟨fun i j p q h => by simp at h, fun k q h => by simp at h⟩
