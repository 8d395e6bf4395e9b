/-! the law's helpers: a call of the class, its answer put into Out, what it throws caught -/
section KH
abbrev fN : Cond := .fieldLinkNest RL 13 "DaytimepairLaw$Out" "n" "J" "DaytimepairLaw"
abbrev fS : Cond := .fieldLinkNest RL 160 "DaytimepairLaw$Out" "s" "Ljava/lang/String;" "DaytimepairLaw"
def NE (U : State) : Prop := va_Nc eA eI U ∧ va_Nw fN U ∧ va_Nw fS U
theorem NE.warm {s U : State} (hW : s.WarmedH U.vm) (h : NE s) : NE U := ⟨va_Nc.moved hW.alike h.1, va_Nw.warmF hW h.2.1, va_Nw.warmF hW h.2.2⟩
theorem NE.same {u U : State} (hv : u.vm = U.vm) (h : NE u) : NE U := ⟨va_Nc.moved (by rw [hv]; exact Vm.Alike.refl U.vm) h.1, va_Nw.same rfl hv h.2.1, va_Nw.same rfl hv h.2.2⟩
theorem inB_X1 : ∀ w ∈ u_ws RX1 TX1 2, w ∈ BW := by
  have h : ∀ w ∈ u_ws RX1 TX1 2, w ∈ lw_tbl := by decide +kernel
  have g : ∀ w ∈ u_ws RX1 TX1 2, goodWord w = true := by decide +kernel
  exact fun w hw => lBW (h w hw) (g w hw)
abbrev HH : Type := List (Nat × Nat × Nat × Nat)
def HE (l : Launch) (G : GT) (y : MethodName) (b : ByteArray) (maxL : Nat) (hh : HH) (k mc ms : Nat) (as : List Value) (wd wd' : va_W) (r : Int32) : Prop := ∀ sz : Nat, Met l y (Cond.codeWith y b maxL (some .int) hh :: BW) (rmK k mc ms) (fun v U => PW G as wd sz v U ∧ NE U) (QW (some (.int r)) G wd' (va_A wd sz)) mc ms (va_A wd sz)
theorem HE.ofW {l : Launch} {G : GT} {y : MethodName} {b : ByteArray} {maxL : Nat} {hh : HH} {k mc ms : Nat} {as : List Value} {wd wd' : va_W} {r : Int32} {own : String} (hc : y.cls = own) (hy : plainName y.cls = true) (hn : (lg_sl as).length ≤ maxL)
    (body : ∀ (p : Program) (e : Env) (s : State) (m : MethodId) (below : List Frame) (meth : Method) (c : Code) (A : Nat → Prop), CallFix p m c b maxL s as.toArray BW own → meth.sig.returnType = some .int → meth.locks = false → c.exceptionTable.toList = tableOf hh → NE s → EV G s s.heap → va_P (gD G) vwCl wd s.heap → va_D A wd → (∀ q : Nat, s.heap.size ≤ q → A q) → (∀ q : Nat, A q → gB G ≤ q) → va_S A s.heap s.heap [] → ∀ ls : Array Slot, lv_has ls maxL (lv_args 0 as) →
      W p l e (rmK k mc ms) s m as.toArray below meth c s.heap [] 0 0 (MQ below (QW (some (.int r)) G wd' A) as.toArray s mc ms A) (F0 m 0 ls [])) : HE l G y b maxL hh k mc ms as wd wd' r := by
  intro sz
  refine va_MetW (cc := b) (maxL := maxL) (ret := some .int) (hh := hh) hy rfl ?_
  intro p e s m args below meth c s₁ B hml hv
  obtain ⟨⟨rfl, hsz, hE, hP, hD⟩, hN⟩ := hv
  subst hsz
  have hts := atoms_spec (ws := Cond.codeWith y b maxL (some .int) hh :: BW) B.pre
  have hl := lv_entry as (n := maxL) hn
  rw [lg_entry_eq]
  refine body p e s m below meth c (va_A wd s.heap.size) ⟨B.exec, B.bytes, hml, ?_, fun w hw => hts w (List.mem_cons_of_mem _ hw)⟩ B.returns B.notSynchronized (vx_table (x := y) B (hts _ List.mem_cons_self)) hN hE hP hD.self (fun q h => Or.inr h) ?_ va_S.rf _ hl
  · rw [← hc]
    exact findClass_of_methodNamed B.named
  · intro q h
    rcases h with ⟨j, x, h⟩ | h
    · exact hD.2 j _ h
    · exact Nat.le_trans hE.2.1 h
theorem P_tail {D : va_G} {x : Nat × va_E} {wd : va_W} {H : Heap} (h : va_P D vwCl (x :: wd) H) : va_P D vwCl wd H := fun k q hk => h (k + 1) q hk
theorem D_tail {A : Nat → Prop} {x : Nat × va_E} {wd : va_W} (h : va_D A (x :: wd)) : va_D A wd := ⟨fun i j p q hi hj e => Nat.succ.inj (h.1 (i + 1) (j + 1) p q hi hj e), fun k q hk => h.2 (k + 1) q hk⟩
variable {p : Program} {l : Launch} {e : Env} {R : Room} {s : State} {m : MethodId} {args : Array Value} {below : List Frame} {meth : Method} {c : Code} {H : Heap} {locs : List Loc} {cells slots : Nat} {Q : State → Prop}
variable {cc : ByteArray} {pc : Nat} {ls : Array Slot} {rest st0 : List Value} {G : GT} {a : Array Value}
theorem th1 {E : String} {sz : Nat} {A : Nat → Prop} (hz : sz = H.size) (hr : vx_Run p l e R s m args below meth c H locs cells slots 1 6 (F0 m pc ls st0) rest (fun _ _ _ => False) (XT E sz) (fun x => sz ≤ x)) (hS : va_S A s.heap H locs) (hA : ∀ q : Nat, s.heap.size ≤ q → A q)
    (kx : ∀ (q9 : Addr) (ce : Cell) (H1 : Heap) (locs1 : List Loc), H.size ≤ H1.size → (∀ x : Nat, x < H.size → H1[x]? = H[x]?) → va_S A s.heap H1 locs1 → H1[q9]? = some ce → ce.vm = .none → s.vm.findClass E = some ce.cls → vx_W p l e R s m args below meth c H1 locs1 (cells + 1) (slots + 6) Q (F0 m pc ls rest) q9) : W p l e R s m args below meth c H locs cells slots Q (F0 m pc ls st0) := by
  subst hz
  intro T hT X
  rcases hr T hT X with ⟨v, st₀, t, T', L, h0, X', hL, e1, e2, hf, st⟩ | ⟨q, st₀, t, T', L, E', ce, h0, X', hL, e1, e2, ⟨hE, hz, hk⟩, hce, hcv, hcl, st⟩
  · exact hf.elim
  · subst hE
    rw [h0] at hz hk
    have ho : ∀ x : Nat, x < H.size → T'.heap[x]? = H[x]? := fun x hx => by rw [e1]; exact hk x hx (fun z => absurd z (Nat.not_le.mpr hx))
    obtain ⟨t2, a1, b1⟩ := kx q ce T'.heap (locs ++ L) (by rw [e1]; exact hz) ho
      ⟨Nat.le_trans hS.1 (by rw [e1]; exact hz), fun x h1 h2 => by rw [ho x (Nat.lt_of_lt_of_le h1 hS.1)]; exact hS.2.1 x h1 h2, fun x hx => by
        rcases List.mem_append.mp hx with h | h
        · exact hS.2.2 x h
        · exact hA _ (Nat.le_trans hS.1 (hL x h))⟩ (by rw [e1]; exact hce) hcv hcl T' rfl X'
    exact ⟨t2, st.trans a1, b1⟩
/-- a virtual call that throws -/
theorem thV {own : String} {nL index : Nat} {y : MethodName} {b : ByteArray} {maxL k n : Nat} {ret : Option FieldType} {o : Nat} {as : List Value} {E : String} {cl : String} {A : Nat → Prop} (C : CallFix p m c cc nL s args BW own) (hM : TH l G y b maxL ret k (.ref o :: as) E) (F : CF y b maxL ret n) (hn : as.length = n) (hL : Cond.methodLink own index y ∈ BW) (hst : Cond.instanceMethod y ∈ BW) (hse : Cond.selects cl y y ∈ BW) (hE : EV G s H) (hS : va_S A s.heap H locs) (hA : ∀ q : Nat, s.heap.size ≤ q → A q)
    (hrv : ∃ cellB : Cell, H[o]? = some cellB ∧ cellB.vm.isStatics = false ∧ s.vm.findClass cl = some cellB.cls)
    (hl : ls.size = nL) (hdg : decode cc pc = .ok (.invokevirtual index, 3)) (hR : (rmK k 1 6).frames + 1 ≤ R.frames ∧ 8 + (maxL + 11) + (rmK k 1 6).locals ≤ R.locals) (hs0 : st0 = as.reverse ++ .ref o :: rest) (hW : (rest.map fun v => v.category).sum ≤ 8) (hf : cells + 1 ≤ R.cells ∧ slots + 6 ≤ R.slots)
    (kx : ∀ (q9 : Addr) (ce : Cell) (H1 : Heap) (locs1 : List Loc), H.size ≤ H1.size → (∀ x : Nat, x < H.size → H1[x]? = H[x]?) → va_S A s.heap H1 locs1 → H1[q9]? = some ce → ce.vm = .none → s.vm.findClass E = some ce.cls → vx_W p l e R s m args below meth c H1 locs1 (cells + 1) (slots + 6) Q (F0 m pc ls rest) q9) :
    W p l e R s m args below meth c H locs cells slots Q (F0 m pc ls st0) :=
  th1 rfl (vx_runV (As := as) (rest := rest) (C := cl) C (hM H.size) ⟨kB8 C.2.2.2.2 F hL rfl rfl hR, C.2.2.2.2 _ hst, C.2.2.2.2 _ hse⟩ ⟨TH.blind, hrv, fun U hU hW => ⟨rfl, by rw [hU], by rw [hU]; exact EV.warm hW hE⟩⟩ rfl hn hl hs0 (lv_room hW) hdg hf) hS hA kx
/-- a virtual call of a method that writes the tail of the world that we hold -/
theorem wcV1 {own : String} {nL index : Nat} {y : MethodName} {b : ByteArray} {maxL k n mc ms : Nat} {ret : Option FieldType} {o : Nat} {as : List Value} {x : Nat × va_E} {wd wd' : va_W} {r : Option Value} {cl : String} {A : Nat → Prop} (C : CallFix p m c cc nL s args BW own) (hM : WR l G y b maxL ret k mc ms (.ref o :: as) wd wd' r) (F : CF y b maxL ret n) (hn : as.length = n) (hL : Cond.methodLink own index y ∈ BW) (hst : Cond.instanceMethod y ∈ BW) (hse : Cond.selects cl y y ∈ BW) (hE : EV G s H) (hP : va_P (gD G) vwCl (x :: wd) H) (hD : va_D A (x :: wd)) (hS : va_S A s.heap H locs) (hA : ∀ q : Nat, s.heap.size ≤ q → A q) (hAB : ∀ q : Nat, A q → gB G ≤ q)
    (hrv : ∃ cellB : Cell, H[o]? = some cellB ∧ cellB.vm.isStatics = false ∧ s.vm.findClass cl = some cellB.cls)
    (hl : ls.size = nL) (hdg : decode cc pc = .ok (.invokevirtual index, 3)) (hR : (rmK k mc ms).frames + 1 ≤ R.frames ∧ 16 + (maxL + 11) + (rmK k mc ms).locals ≤ R.locals) (hs0 : st0 = as.reverse ++ .ref o :: rest) (hW : (rest.map fun v => v.category).sum ≤ 16) (hf : cells + mc ≤ R.cells ∧ slots + ms ≤ R.slots)
    (kk : ∀ (H1 : Heap) (locs1 : List Loc), va_P (gD G) vwCl (x :: wd') H1 → va_D A (x :: wd') → va_S A s.heap H1 locs1 → W p l e R s m args below meth c H1 locs1 (cells + mc) (slots + ms) Q (F0 m (pc + 3) ls (r.toList ++ rest))) : W p l e R s m args below meth c H locs cells slots Q (F0 m pc ls st0) := by
  have hPt := P_tail hP
  have hDt := D_tail hD
  refine wc0 (xrunV (As := as) (rest := rest) (C := cl) C (hM H.size) F hL hst hse rfl rfl hR ⟨PW.blind, hrv, fun U hU hW => ⟨rfl, by rw [hU], by rw [hU]; exact EV.warm hW hE, by rw [hU]; exact hPt, hDt.weaken (fun _ q _ h => hAB q.1 h)⟩⟩ rfl hn hl hs0 (k_room hW) hdg hf) hS (wfree hDt hS hA)
    (fun H1 locs1 hz hk hP1 hD1 hS1 => ?_)
  have hx0 : x.1 < H.size := (hP 0 x rfl).lt
  have hxA : ¬ va_A wd H.size x.1 := by
    intro h
    rcases h with ⟨j, z, h⟩ | h
    · exact absurd (hD.1 0 (j + 1) x (x.1, z) rfl h rfl) (by omega)
    · exact absurd hx0 (Nat.not_lt.mpr h)
  have hP2 : va_P (gD G) vwCl [x] H1 := va_P.kept (H := H) (fun k q hk2 => by
    cases k with
    | zero => cases hk2; exact hP 0 _ rfl
    | succ k => simp at hk2) (fun k q hk2 => by
    cases k with
    | zero => cases hk2; exact hk _ hx0 hxA
    | succ k => simp at hk2)
  refine kk H1 locs1 (va_P.app hP2 hP1) ?_ hS1
  refine va_D.app (w1 := [x]) (w2 := wd') ⟨fun i j p q hi hj _ => ?_, fun k q hk2 => ?_⟩ (hD1.weaken (fun _ q _ h => wfree hDt hS hA q.1 h)) (fun i j p q hi hj e => ?_)
  · have h1 := (List.getElem?_eq_some_iff.mp hi).1
    have h2 := (List.getElem?_eq_some_iff.mp hj).1
    simp at h1 h2
    omega
  · cases k with
    | zero => cases hk2; exact hD.2 0 _ rfl
    | succ k => simp at hk2
  · cases i with
    | zero =>
      cases hi
      have h1 := hD1.2 j q hj
      rw [← e] at h1
      exact hxA h1
    | succ i => simp at hi
theorem we_h {v : Int32} {wd' : va_W} {mc ms : Nat} {A : Nat → Prop} (hx : p.tables.exec = Jvm.exec) (hb : c.code = cc) (hr : meth.sig.returnType = some .int) (hk : meth.locks = false) (hP : va_P (gD G) vwCl wd' H) (hD : va_D A wd') (hS : va_S A s.heap H locs) (h1 : cells ≤ mc) (h2 : slots ≤ ms) (hdg : decode cc pc = .ok (.ireturn, 1)) : W p l e R s m args below meth c H locs cells slots (MQ below (QW (some (.int v)) G wd' A) args s mc ms A) (F0 m pc ls [.int v]) :=
  W.widen h1 h2 (W.iret hx hb hr (fun t ht _ => ⟨rfl, by rw [ht]; exact hP, hD, hS.F ht⟩) hS.2.2 hdg hk)
def fz9 (x : Int32) : Int64 := if x = 0 then 0 else 1
abbrev wH (G : GT) (a : Nat → Nat) (o : Nat) (n : Int64) (sv : Value) (S : SX) : va_W := (o, .inr (3, [.long n, sv])) :: wX G a S
end KH
