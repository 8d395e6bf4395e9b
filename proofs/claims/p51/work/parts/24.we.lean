/-! contracts with a world that the method makes (P tells what it is); new arrays; constructors -/
section KI
def QE (G : GT) (P : Option Value → va_W → Prop) (A : Nat → Prop) : Array Value → State → Outcome → State → Prop := fun _ st o t => ∃ (r : Option Value) (wd' : va_W), o = .returned r ∧ P r wd' ∧ va_P (gD G) vwCl wd' t.heap ∧ va_D A wd' ∧ va_F A st t
def WE (l : Launch) (G : GT) (y : MethodName) (b : ByteArray) (maxL : Nat) (ret : Option FieldType) (k mc ms : Nat) (as : List Value) (wd : va_W) (P : Option Value → va_W → Prop) : Prop := ∀ sz : Nat, Met l y (Cond.code y b maxL ret :: BW) (rmK k mc ms) (PW G as wd sz) (QE G P (va_A wd sz)) mc ms (va_A wd sz)
theorem WE.ofW {l : Launch} {G : GT} {y : MethodName} {b : ByteArray} {maxL : Nat} {ret : Option FieldType} {k mc ms : Nat} {as : List Value} {wd : va_W} {P : Option Value → va_W → Prop} {own : String} (hc : y.cls = own) (hy : plainFor y = true) (hn : (lg_sl as).length ≤ maxL)
    (body : ∀ (p : Program) (e : Env) (s : State) (m : MethodId) (below : List Frame) (meth : Method) (c : Code) (A : Nat → Prop), CallFix p m c b maxL s as.toArray BW own → meth.sig.returnType = ret → meth.locks = false → meth.name = y.name → EV G s s.heap → va_P (gD G) vwCl wd s.heap → va_D A wd → (∀ q : Nat, s.heap.size ≤ q → A q) → (∀ q : Nat, A q → gB G ≤ q) → va_S A s.heap s.heap [] → ∀ ls : Array Slot, lv_has ls maxL (lv_args 0 as) →
      W p l e (rmK k mc ms) s m as.toArray below meth c s.heap [] 0 0 (MQ below (QE G P A) as.toArray s mc ms A) (F0 m 0 ls [])) : WE l G y b maxL ret k mc ms as wd P := by
  intro sz
  refine va_MetF (cc := b) (maxL := maxL) (ret := ret) hy rfl ?_
  intro p e s m args below meth c s₁ B hml hv
  obtain ⟨rfl, hsz, hE, hP, hD⟩ := hv
  subst hsz
  have hts := atoms_spec (ws := Cond.code y b maxL ret :: BW) B.pre
  have hl := lv_entry as (n := maxL) hn
  rw [lg_entry_eq]
  refine body p e s m below meth c (va_A wd s.heap.size) ⟨B.exec, B.bytes, hml, ?_, fun w hw => hts w (List.mem_cons_of_mem _ hw)⟩ B.returns B.notSynchronized (name_of_methodNamed B.named B.method).1 hE hP hD.self (fun q h => Or.inr h) ?_ va_S.rf _ hl
  · rw [← hc]
    exact findClass_of_methodNamed B.named
  · intro q h
    rcases h with ⟨j, x, h⟩ | h
    · exact hD.2 j _ h
    · exact Nat.le_trans hE.2.1 h
variable {p : Program} {l : Launch} {e : Env} {R : Room} {s : State} {m : MethodId} {args : Array Value} {below : List Frame} {meth : Method} {c : Code} {H : Heap} {locs : List Loc} {cells slots : Nat} {Q : State → Prop}
variable {cc : ByteArray} {pc : Nat} {ls : Array Slot} {rest st0 : List Value} {G : GT} {a : Array Value}
theorem nwI {N' : Nat} {n : Int32} {ws : va_W} {A : Nat → Prop} {H0 : Heap} (hx : p.tables.exec = Jvm.exec) (hb : c.code = cc) (harr : (Cond.arrayClass .int).before args s = true) (hK : va_K (gD G) vwCl (gT G) s) (hP : va_P (gD G) vwCl ws H) (hD : va_D A ws) (hS : va_S A H0 H locs) (hA : ∀ q : Nat, H0.size ≤ q → A q) (hn : ¬ n < 0) (hN : n.toNatClampNeg = N') (hbytes : N' * componentBytes .int ≤ 536870912) (hcells : cells + 1 ≤ R.cells) (hslots : slots + N' ≤ R.slots) (hdg : decode cc pc = .ok (.newarray .int, 2))
    (kk : ∀ (q : Nat) (H1 : Heap), va_P (gD G) vwCl (ws ++ [(q, .inl (gC G 0, N', .inl (fun _ => 0)))]) H1 → va_D A (ws ++ [(q, .inl (gC G 0, N', .inl (fun _ => 0)))]) → va_S A H0 H1 locs → W p l e R s m args below meth c H1 locs (cells + 1) (slots + N') Q (F0 m (pc + 2) ls (.ref q :: rest))) : W p l e R s m args below meth c H locs cells slots Q (F0 m pc ls (.int n :: rest)) :=
  va_newa (atype := .int) (ty := .int) (a0 := (N', .inl (fun _ => 0))) hx hb harr rfl hK hP hD hS hA (fun _ => rfl) hn hN hbytes hcells hslots hdg (fun q cA H1 hK1 hP1 hD1 hS1 => by
    have e : cA = gC G 0 := Option.some.inj ((va_nm_int (hK1.2 3 (cA, .int) rfl).2).symm.trans (va_nm_int (hK.2 0 (gC G 0, .int) rfl).2))
    subst e
    exact kk q H1 hP1 hD1 hS1)
theorem nwL {N' : Nat} {n : Int32} {ws : va_W} {A : Nat → Prop} {H0 : Heap} (hx : p.tables.exec = Jvm.exec) (hb : c.code = cc) (harr : (Cond.arrayClass .long).before args s = true) (hK : va_K (gD G) vwCl (gT G) s) (hP : va_P (gD G) vwCl ws H) (hD : va_D A ws) (hS : va_S A H0 H locs) (hA : ∀ q : Nat, H0.size ≤ q → A q) (hn : ¬ n < 0) (hN : n.toNatClampNeg = N') (hbytes : N' * componentBytes .long ≤ 536870912) (hcells : cells + 1 ≤ R.cells) (hslots : slots + N' ≤ R.slots) (hdg : decode cc pc = .ok (.newarray .long, 2))
    (kk : ∀ (q : Nat) (H1 : Heap), va_P (gD G) vwCl (ws ++ [(q, .inl (gC G 1, N', .inr (.inl (fun _ => 0))))]) H1 → va_D A (ws ++ [(q, .inl (gC G 1, N', .inr (.inl (fun _ => 0))))]) → va_S A H0 H1 locs → W p l e R s m args below meth c H1 locs (cells + 1) (slots + N') Q (F0 m (pc + 2) ls (.ref q :: rest))) : W p l e R s m args below meth c H locs cells slots Q (F0 m pc ls (.int n :: rest)) :=
  va_newa (atype := .long) (ty := .long) (a0 := (N', .inr (.inl (fun _ => 0)))) hx hb harr rfl hK hP hD hS hA (fun _ => rfl) hn hN hbytes hcells hslots hdg (fun q cA H1 hK1 hP1 hD1 hS1 => by
    have e : cA = gC G 1 := Option.some.inj ((va_nm_long (hK1.2 3 (cA, .long) rfl).2).symm.trans (va_nm_long (hK.2 1 (gC G 1, .long) rfl).2))
    subst e
    exact kk q H1 hP1 hD1 hS1)
theorem nwB {N' : Nat} {n : Int32} {ws : va_W} {A : Nat → Prop} {H0 : Heap} (hx : p.tables.exec = Jvm.exec) (hb : c.code = cc) (harr : (Cond.arrayClass .byte).before args s = true) (hK : va_K (gD G) vwCl (gT G) s) (hP : va_P (gD G) vwCl ws H) (hD : va_D A ws) (hS : va_S A H0 H locs) (hA : ∀ q : Nat, H0.size ≤ q → A q) (hn : ¬ n < 0) (hN : n.toNatClampNeg = N') (hbytes : N' * componentBytes .byte ≤ 536870912) (hcells : cells + 1 ≤ R.cells) (hslots : slots + N' ≤ R.slots) (hdg : decode cc pc = .ok (.newarray .byte, 2))
    (kk : ∀ (q : Nat) (H1 : Heap), va_P (gD G) vwCl (ws ++ [(q, .inl (gC G 2, N', .inl (fun _ => 0)))]) H1 → va_D A (ws ++ [(q, .inl (gC G 2, N', .inl (fun _ => 0)))]) → va_S A H0 H1 locs → W p l e R s m args below meth c H1 locs (cells + 1) (slots + N') Q (F0 m (pc + 2) ls (.ref q :: rest))) : W p l e R s m args below meth c H locs cells slots Q (F0 m pc ls (.int n :: rest)) :=
  va_newa (atype := .byte) (ty := .byte) (a0 := (N', .inl (fun _ => 0))) hx hb harr rfl hK hP hD hS hA (fun _ => rfl) hn hN hbytes hcells hslots hdg (fun q cA H1 hK1 hP1 hD1 hS1 => by
    have e : cA = gC G 2 := Option.some.inj ((va_nm_byte (hK1.2 3 (cA, .byte) rfl).2).symm.trans (va_nm_byte (hK.2 2 (gC G 2, .byte) rfl).2))
    subst e
    exact kk q H1 hP1 hD1 hS1)
theorem we_v {P : Option Value → va_W → Prop} {wd' : va_W} {mc ms : Nat} {A : Nat → Prop} (hx : p.tables.exec = Jvm.exec) (hb : c.code = cc) (hr : meth.sig.returnType = none) (hk : meth.locks = false) (hp : P none wd') (hP : va_P (gD G) vwCl wd' H) (hD : va_D A wd') (hS : va_S A s.heap H locs) (h1 : cells ≤ mc) (h2 : slots ≤ ms) (hdg : decode cc pc = .ok (.return_, 1)) : W p l e R s m args below meth c H locs cells slots (MQ below (QE G P A) args s mc ms A) (F0 m pc ls []) :=
  W.widen h1 h2 (W.vret hx hb hr (fun t ht _ => ⟨none, wd', rfl, hp, by rw [ht]; exact hP, hD, hS.F ht⟩) hS.2.2 hdg hk)
/-- what an existing call leaves, the callee's world wd the tail of the caller's -/
theorem we0 {P : Option Value → va_W → Prop} {mc ms : Nat} {A : Nat → Prop} {wd wr : va_W} (hP : va_P (gD G) vwCl (wr ++ wd) H) (hD : va_D A (wr ++ wd)) (hS : va_S A s.heap H locs) (hA : ∀ q : Nat, s.heap.size ≤ q → A q) (hr : va_Run p l e R s m args below meth c H locs cells slots mc ms (F0 m pc ls st0) rest (QE G P (va_A wd H.size) a) (va_A wd H.size))
    (kk : ∀ (r : Option Value) (wd' : va_W) (H1 : Heap) (locs1 : List Loc), P r wd' → va_P (gD G) vwCl (wr ++ wd') H1 → va_D A (wr ++ wd') → va_S A s.heap H1 locs1 → W p l e R s m args below meth c H1 locs1 (cells + mc) (slots + ms) Q (F0 m (pc + 3) ls (r.toList ++ rest))) : W p l e R s m args below meth c H locs cells slots Q (F0 m pc ls st0) := by
  have hPt : va_P (gD G) vwCl wd H := fun k q hk => hP (k + wr.length) q (by rw [List.getElem?_append_right (by omega)]; simpa using hk)
  have hDt : va_D A wd := ⟨fun i j p q hi hj e => by
      have := hD.1 (i + wr.length) (j + wr.length) p q (by rw [List.getElem?_append_right (by omega)]; simpa using hi) (by rw [List.getElem?_append_right (by omega)]; simpa using hj) e
      omega, fun k q hk => hD.2 (k + wr.length) q (by rw [List.getElem?_append_right (by omega)]; simpa using hk)⟩
  have hf := wfree hDt hS hA
  have hPr : va_P (gD G) vwCl wr H := fun k q hk => hP k q (by rw [List.getElem?_append_left (List.getElem?_eq_some_iff.mp hk).1]; exact hk)
  have hDr : va_D A wr := ⟨fun i j p q hi hj e => hD.1 i j p q (by rw [List.getElem?_append_left (List.getElem?_eq_some_iff.mp hi).1]; exact hi) (by rw [List.getElem?_append_left (List.getElem?_eq_some_iff.mp hj).1]; exact hj) e, fun k q hk => hD.2 k q (by rw [List.getElem?_append_left (List.getElem?_eq_some_iff.mp hk).1]; exact hk)⟩
  have hxA : ∀ (k : Nat) (q : Nat × va_E), wr[k]? = some q → ¬ va_A wd H.size q.1 := by
    intro k q hk h
    rcases h with ⟨j, z, h⟩ | h
    · have hkl := (List.getElem?_eq_some_iff.mp hk).1
      have := hD.1 k (j + wr.length) q (q.1, z) (by rw [List.getElem?_append_left hkl]; exact hk) (by rw [List.getElem?_append_right (by omega)]; simpa using h) rfl
      omega
    · exact absurd (hPr k q hk).lt (Nat.not_lt.mpr h)
  intro T hT X
  obtain ⟨v, st₀, t, T', L, h0, X', hL, e1, e2, ⟨r, wd', hv, hp, hp1, hd1, hz, hk⟩, st⟩ := hr T hT X
  cases hv
  rw [h0] at hz hk
  have hP2 : va_P (gD G) vwCl wr T'.heap := hPr.kept (fun k q hk2 => by rw [e1]; exact hk _ (hPr k q hk2).lt (hxA k q hk2))
  obtain ⟨t2, a1, b1⟩ := kk _ wd' T'.heap (locs ++ L) hp (va_P.app hP2 (by rw [e1]; exact hp1))
    (va_D.app hDr (hd1.weaken (fun _ q _ h => hf q.1 h)) (fun i j p q hi hj e => by
      have h1 := hd1.2 j q hj
      rw [← e] at h1
      exact hxA i p hi h1))
    ⟨Nat.le_trans hS.1 (by rw [e1]; exact hz), fun q h1 h2 => by rw [e1, hk q (Nat.lt_of_lt_of_le h1 hS.1) (fun z => h2 (hf q z))]; exact hS.2.1 q h1 h2, fun q hq => by
      rcases List.mem_append.mp hq with h | h
      · exact hS.2.2 q h
      · exact hf _ (hL q h)⟩ T' rfl X'
  exact ⟨t2, st t2 a1, b1⟩
end KI
def u6 (v : Int32) : Nat → Int32 := upd (upd (upd (upd (upd (upd (fun _ => 0) (0 : Int32).toNatClampNeg v) (1 : Int32).toNatClampNeg v) (2 : Int32).toNatClampNeg v) (3 : Int32).toNatClampNeg v) (4 : Int32).toNatClampNeg v) (5 : Int32).toNatClampNeg v
def u6L (v : Int64) : Nat → Int64 := vp_updL (vp_updL (vp_updL (vp_updL (vp_updL (vp_updL (fun _ => 0) (0 : Int32).toNatClampNeg v) (1 : Int32).toNatClampNeg v) (2 : Int32).toNatClampNeg v) (3 : Int32).toNatClampNeg v) (4 : Int32).toNatClampNeg v) (5 : Int32).toNatClampNeg v
def sx0 : SX := (u6 2000, u6 1, u6 1, u6L (fX0_firstDayOf (2000 : Int32)), (fun _ => 0), (fun _ => 0))
def sm0 : SM := (0, u6 2000, u6 1, u6 1, (fun _ => 0), (fun _ => 0))
