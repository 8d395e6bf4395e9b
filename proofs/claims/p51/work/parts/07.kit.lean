/-! OUR OWN LAYER: one word list for all methods, one environment, contracts that read, that write, that throw. -/
section KX0
/-- private methods of the builder's superclass: selection finds them (they hold where the tables' words hold: xsel_ok) -/
def xsel : List Cond := [.selects RJ4 yJ5_ensureCapacityInternal_d00df yJ5_ensureCapacityInternal_d00df, .selects RJ4 yJ5_newCapacity_0f7a4 yJ5_newCapacity_0f7a4, .selects RJ4 yJ5_putStringAt_47b60 yJ5_putStringAt_47b60, .selects RJ4 yJ5_inflateIfNeededFor_a7421 yJ5_inflateIfNeededFor_a7421]
def BW : List Cond := (xsel ++ lw_tbl).filter goodWord
theorem lBW {w : Cond} (h : w ∈ lw_tbl) (g : goodWord w = true) : w ∈ BW := List.mem_filter.mpr ⟨List.mem_append_right _ h, g⟩
theorem mBW {w : Cond} (i : Nat) (h : lw_tbl[i]? = some w) (g : goodWord w = true) : w ∈ BW := lBW (List.mem_of_getElem? h) g
theorem xBW {w : Cond} (i : Nat) (h : xsel[i]? = some w) (g : goodWord w = true) : w ∈ BW := List.mem_filter.mpr ⟨List.mem_append_left _ (List.mem_of_getElem? h), g⟩
theorem gBW {w : Cond} (h : w ∈ BW) : (w.onTables && w.keeps) = true ∨ ∃ ty, w = .arrayClass ty := good_of_word (List.mem_filter.mp h).2
theorem tBW {w : Cond} (h : w ∈ BW) : w ∈ xsel ++ lw_tbl := (List.mem_filter.mp h).1
theorem gcBW {c : Cond} (h : c ∈ BW) : GoodIn BW (c :: BW) := fun w hw => (List.mem_cons.mp hw).elim (fun e => by rw [e]; exact ⟨h, gBW h⟩) (fun k => ⟨k, gBW k⟩)
/-- first place behind which all is fixed; the classes' numbers; the array classes (0 int, 1 long, 2 byte); where the fixed things lie -/
abbrev GT : Type := Nat × va_G × (Nat → ClassId) × (Nat → Nat)
abbrev gB (G : GT) : Nat := G.1
abbrev gD (G : GT) : va_G := G.2.1
abbrev gC (G : GT) (k : Nat) : ClassId := G.2.2.1 k
abbrev ga (G : GT) (k : Nat) : Nat := G.2.2.2 k
abbrev gT (G : GT) : List (ClassId × FieldType) := [(gC G 0, .int), (gC G 1, .long), (gC G 2, .byte)]
abbrev gA (G : GT) : Nat → Prop := fun q => gB G ≤ q
abbrev tDA (j : Nat) : Int32 := ([0, 31, 59, 90, 120, 151, 181, 212, 243, 273, 304, 334] : List Int32).getD j 0
abbrev tD1 (j : Nat) : Int32 := nI (48 + j % 10)
abbrev tD10 (j : Nat) : Int32 := nI (48 + j / 10)
def EVv (G : GT) (U : State) : Prop := va_K (gD G) vwCl (gT G) U ∧ vk_R RX0 202 "there is no such moment" (ga G 3) U ∧ vk_R RX0 209 "a number is out of its range" (ga G 4) U ∧ vk_R RX0 300 "!" (ga G 5) U ∧ vk_R RX2 204 "" (ga G 6) U ∧ vk_R RX2 235 "!" (ga G 5) U ∧ va_Nw (.castable "[B" "java/lang/Cloneable") U
def EVs (G : GT) (k v n : Nat) (f : Nat → Value) (U : State) (H : Heap) : Prop := va_O "java/lang/String" (ga G k) (gA G) U H ∧ va_OF "java/lang/String" "coder" "B" (.int 0) (ga G k) (gA G) U H ∧ va_OF "java/lang/String" "value" "[B" (.ref (ga G v)) (ga G k) (gA G) U H ∧ va_T .byte (ga G v) n f (gA G) U H
def EVh (G : GT) (U : State) (H : Heap) : Prop :=
  vx_Zq Bundle.tN "UNASSIGNED_STACK" Bundle.steD (gA G) U H ∧ vx_Zq Bundle.tN "SUPPRESSED_SENTINEL" Bundle.listD (gA G) U H ∧
  va_Z "Daytimepair" "DAYS_AHEAD" "[I" (.ref (ga G 0)) (gA G) U H ∧ va_T .int (ga G 0) 12 (fun j => .int (tDA j)) (gA G) U H ∧
  va_Z "java/lang/String" "COMPACT_STRINGS" "Z" (.int 1) (gA G) U H ∧
  va_Z "java/lang/Integer" "DigitOnes" "[B" (.ref (ga G 1)) (gA G) U H ∧ va_T .byte (ga G 1) 100 (fun j => .int (tD1 j)) (gA G) U H ∧
  va_Z "java/lang/Integer" "DigitTens" "[B" (.ref (ga G 2)) (gA G) U H ∧ va_T .byte (ga G 2) 100 (fun j => .int (tD10 j)) (gA G) U H ∧
  EVs G 5 7 1 (fun _ => .int 33) U H ∧ EVs G 6 8 0 (fun _ => .int 0) U H
def EV (G : GT) (U : State) (H : Heap) : Prop := EVv G U ∧ gB G ≤ H.size ∧ EVh G U H
theorem EVs.moved {G : GT} {k v n : Nat} {f : Nat → Value} {u U : State} {H : Heap} (hvm : u.vm.Alike U.vm) (h : EVs G k v n f u H) : EVs G k v n f U H := ⟨va_O.moved hvm h.1, va_OF.moved hvm h.2.1, va_OF.moved hvm h.2.2.1, va_T.moved hvm h.2.2.2⟩
theorem EVs.kept {G : GT} {k v n : Nat} {f : Nat → Value} {U : State} {H H1 : Heap} (h : EVs G k v n f U H) (hq : ∀ a : Nat, a < H.size → ¬ gA G a → H1[a]? = H[a]?) : EVs G k v n f U H1 := ⟨h.1.kept hq, h.2.1.kept hq, h.2.2.1.kept hq, h.2.2.2.kept hq⟩
theorem EVh.moved {G : GT} {u U : State} {H : Heap} (hvm : u.vm.Alike U.vm) (h : EVh G u H) : EVh G U H := by
  obtain ⟨h1, h2, h3, h4, h5, h6, h7, h8, h9, h10, h11⟩ := h
  exact ⟨vx_Zq.moved hvm h1, vx_Zq.moved hvm h2, va_Z.moved hvm h3, va_T.moved hvm h4, va_Z.moved hvm h5, va_Z.moved hvm h6, va_T.moved hvm h7, va_Z.moved hvm h8, va_T.moved hvm h9, EVs.moved hvm h10, EVs.moved hvm h11⟩
theorem EVh.kept {G : GT} {U : State} {H H1 : Heap} (h : EVh G U H) (hq : ∀ a : Nat, a < H.size → ¬ gA G a → H1[a]? = H[a]?) : EVh G U H1 := by
  obtain ⟨h1, h2, h3, h4, h5, h6, h7, h8, h9, h10, h11⟩ := h
  exact ⟨h1.kept hq, h2.kept hq, h3.kept hq, h4.kept hq, h5.kept hq, h6.kept hq, h7.kept hq, h8.kept hq, h9.kept hq, h10.kept hq, h11.kept hq⟩
theorem EV.warm {G : GT} {s U : State} {H : Heap} (hW : s.WarmedH U.vm) (h : EV G s H) : EV G U H := by
  obtain ⟨⟨v1, v2, v3, v4, v5, v6, v7⟩, h2, h3⟩ := h
  exact ⟨⟨va_K.moved hW.alike v1, v2.warm hW, v3.warm hW, v4.warm hW, v5.warm hW, v6.warm hW, va_Nw.warmC hW v7⟩, h2, h3.moved hW.alike⟩
theorem EV.same {G : GT} {u U : State} {H : Heap} (hv : U.vm = u.vm) (h : EV G u H) : EV G U H := by
  obtain ⟨⟨v1, v2, v3, v4, v5, v6, v7⟩, h2, h3⟩ := h
  have ha : u.vm.Alike U.vm := by rw [hv]; exact Vm.Alike.refl u.vm
  exact ⟨⟨va_K.moved ha v1, v2.same hv, v3.same hv, v4.same hv, v5.same hv, v6.same hv, va_Nw.same rfl hv.symm v7⟩, h2, h3.moved ha⟩
theorem EV.kept {G : GT} {U : State} {H H1 : Heap} (h : EV G U H) (hz : H.size ≤ H1.size) (hq : ∀ a : Nat, a < H.size → ¬ gA G a → H1[a]? = H[a]?) : EV G U H1 := ⟨h.1, Nat.le_trans h.2.1 hz, h.2.2.kept hq⟩
theorem EV.K {G : GT} {U : State} {H : Heap} (h : EV G U H) : va_K (gD G) vwCl (gT G) U := h.1.1
theorem EV.S {G : GT} {U : State} {H0 H : Heap} {A : Nat → Prop} {locs : List Loc} (h : EV G U H0) (hS : va_S A H0 H locs) (hAB : ∀ q, A q → gB G ≤ q) : EV G U H := h.kept hS.1 (fun a h1 h2 => hS.2.1 a h1 (fun z => h2 (hAB a z)))
end KX0
section KX1
def rmK (k mc ms : Nat) : Room := { frames := k, cells := mc, slots := ms, locals := 100 * k }
/-- a method's own facts: its code, its class -/
def CF (y : MethodName) (b : ByteArray) (maxL : Nat) (ret : Option FieldType) (n : Nat) : Prop := Cond.code y b maxL ret ∈ BW ∧ Cond.initialized y.cls ∈ BW ∧ plainFor y = true ∧ (y.cls ≠ "java/lang/invoke/MethodHandle" ∧ y.cls ≠ "java/lang/invoke/VarHandle" ∧ (parseMethodDescriptor y.desc).map (fun d => d.parameters.length) = some n)
end KX1
/-! calls, with up to sixteen words of the caller's stack below the arguments (the same proofs as the kit's, at eight) -/
section KR
variable {p : Program} {l : Launch} {e : Env} {R : Room} {s : State} {m : MethodId} {args : Array Value} {below : List Frame} {meth : Method} {c : Code} {H : Heap} {locs : List Loc} {cells slots : Nat}
variable {y : MethodName} {bytes cc : ByteArray} {maxL nL mc ms n index : Nat} {ret : Option FieldType} {rm : Room} {Pc : Array Value → State → Prop} {Qc : Array Value → State → Outcome → State → Prop} {free : Addr → Prop} {own C : String} {b : Addr} {As rest : List Value} {g : JFrame}
theorem k_room {pc : Nat} {ls : Array Slot} {st : List Value} (h : (st.map fun v => v.category).sum ≤ 16) : 2 * (F0 m pc ls rest).monitorRoom + (st.map fun v => v.category).sum ≤ 16 := by
  show 2 * 0 + _ ≤ _
  omega
theorem kBack (hw : ∀ w ∈ BW, w.before args s = true) (hM : Met l y (Cond.code y bytes maxL ret :: BW) rm Pc Qc mc ms free) (hbl : FrameBlind Pc) (F : CF y bytes maxL ret n) (hrc : rm.cells = mc) (hrs : rm.slots = ms) (hR : rm.frames + 1 ≤ R.frames ∧ 16 + (maxL + 11) + rm.locals ≤ R.locals) : Back l R p e below s args y 3 16 (PreOf R mc ms Pc) (PostOf Qc mc ms free) :=
  back_of (bytes := bytes) (maxL := maxL) (ret := ret) hM hbl hrc hrs hR.1 hR.2 (pay_in hw (gcBW F.1)) List.mem_cons_self (fun a' U hW => word_at hW (Or.inl (by first | rfl | simp [Cond.onTables, Cond.keeps, Cond.steady])) (hw _ F.2.1))
theorem CF.len (F : CF y bytes maxL ret n) : ∀ sig, parseMethodDescriptor y.desc = some sig → n = sig.parameters.length := by
  intro sig h
  have h2 := F.2.2.2.2.2
  rw [h] at h2
  exact (Option.some.inj h2).symm
theorem xrunV (S : CallFix p m c cc nL s args BW own) (hM : Met l y (Cond.code y bytes maxL ret :: BW) rm Pc Qc mc ms free) (F : CF y bytes maxL ret n) (hL : Cond.methodLink own index y ∈ BW) (hin : Cond.instanceMethod y ∈ BW) (hse : Cond.selects C y y ∈ BW) (hrc : rm.cells = mc) (hrs : rm.slots = ms) (hR : rm.frames + 1 ≤ R.frames ∧ 16 + (maxL + 11) + rm.locals ≤ R.locals) (hp : PreV s H C b Pc As)
    (hg : g.method = m) (hn : As.length = n) (hsize : g.locals.size = nL) (hstack : g.stack = As.reverse ++ .ref b :: rest) (hW : 2 * g.monitorRoom + (rest.map fun v => v.category).sum ≤ 16) (hdg : decode cc g.pc = .ok (.invokevirtual index, 3)) (hf : cells + mc ≤ R.cells ∧ slots + ms ≤ R.slots) :
    va_Run p l e R s m args below meth c H locs cells slots mc ms g rest (Qc (Value.ref b :: As).toArray) (free) := by
  obtain ⟨hx, hb, hml, ho, hw⟩ := S
  have hK : Back l R p e below s args y 3 16 (PreOf R mc ms Pc) (PostOf Qc mc ms free) := kBack hw hM hp.1 F hrc hrs hR
  obtain ⟨-, ⟨cellB, hcB, hoB, hclB⟩, hPc⟩ := hp
  intro T hT X
  obtain ⟨v, vm₁, ⟨U', l2, c2, s2⟩, hW₁, X', ⟨g', mk, t, L, e1, e2, hq, h1, hL', h2, h3⟩, st⟩ := callV X hx (C := C) (bytes := bytes) (maxL := maxL) (ret := ret) ho (hw _ hL) (hw _ hin) (hw _ hse) (hw _ F.1) ⟨F.2.2.2.1, F.2.2.2.2.1⟩ hK (by rw [hT]; exact hcB) hoB hclB hg (hsize.trans hml.symm) (argsL := As) (rest := rest) (fun sig h => hn.trans (F.len sig h)) hstack hW (by rw [hb]; exact hdg)
    (fun vm₁ hW₁ => ⟨hf.1, hf.2, hPc (T.setVm vm₁) hT hW₁⟩)
  dsimp only [Pt.U, Pt.locs, Pt.cells, Pt.slots] at X' e1 e2 h1 h2 h3 st
  subst h1; subst h2; subst h3
  exact ⟨v, (T.setVm vm₁).calling g' mk (Value.ref b :: As).toArray, t, U', L, hT, X', hL', e1, e2, hq, st⟩
theorem xrunS (S : CallFix p m c cc nL s args BW own) (hM : Met l y (Cond.code y bytes maxL ret :: BW) rm Pc Qc mc ms free) (F : CF y bytes maxL ret n) (hL : Cond.methodLink own index y ∈ BW) (hstt : Cond.static y ∈ BW) (hrc : rm.cells = mc) (hrs : rm.slots = ms) (hR : rm.frames + 1 ≤ R.frames ∧ 16 + (maxL + 11) + rm.locals ≤ R.locals) (hp : PreS s H Pc As)
    (hg : g.method = m) (hn : As.length = n) (hsize : g.locals.size = nL) (hstack : g.stack = As.reverse ++ rest) (hW : 2 * g.monitorRoom + (rest.map fun v => v.category).sum ≤ 16) (hdg : decode cc g.pc = .ok (.invokestatic index, 3)) (hf : cells + mc ≤ R.cells ∧ slots + ms ≤ R.slots) :
    va_Run p l e R s m args below meth c H locs cells slots mc ms g rest (Qc As.toArray) (free) := by
  obtain ⟨hx, hb, hml, ho, hw⟩ := S
  have hK : Back l R p e below s args y 3 16 (PreOf R mc ms Pc) (PostOf Qc mc ms free) := kBack hw hM hp.1 F hrc hrs hR
  intro T hT X
  obtain ⟨v, vm₁, ⟨U', l2, c2, s2⟩, hW₁, X', ⟨g', mk, t, L, e1, e2, hq, h1, hL', h2, h3⟩, st⟩ := callS X hx (bytes := bytes) (maxL := maxL) (ret := ret) ho (hw _ hL) (hw _ hstt) (hw _ F.2.1) (hw _ F.1) ⟨F.2.2.2.1, F.2.2.2.2.1⟩ hK hg (hsize.trans hml.symm) (argsL := As) (rest := rest) (fun sig h => hn.trans (F.len sig h)) hstack hW (by rw [hb]; exact hdg)
    (fun vm₁ hW₁ => ⟨hf.1, hf.2, hp.2 (T.setVm vm₁) hT hW₁⟩)
  dsimp only [Pt.U, Pt.locs, Pt.cells, Pt.slots] at X' e1 e2 h1 h2 h3 st
  subst h1; subst h2; subst h3
  exact ⟨v, (T.setVm vm₁).calling g' mk As.toArray, t, U', L, hT, X', hL', e1, e2, hq, st⟩
theorem xrunI (S : CallFix p m c cc nL s args BW own) (hM : Met l y (Cond.code y bytes maxL none :: BW) rm Pc Qc mc ms free) (F : CF y bytes maxL none n) (hL : Cond.methodLink own index y ∈ BW) (hin : Cond.instanceMethod y ∈ BW) (hy1 : y.name = "<init>") (hrc : rm.cells = mc) (hrs : rm.slots = ms) (hR : rm.frames + 1 ≤ R.frames ∧ 16 + (maxL + 11) + rm.locals ≤ R.locals) (hp : PreS s H Pc (.ref b :: As))
    (hg : g.method = m) (hn : As.length = n) (hsize : g.locals.size = nL) (hstack : g.stack = As.reverse ++ .ref b :: rest) (hW : 2 * g.monitorRoom + (rest.map fun v => v.category).sum ≤ 16) (hdg : decode cc g.pc = .ok (.invokespecial index, 3)) (hf : cells + mc ≤ R.cells ∧ slots + ms ≤ R.slots) :
    va_Run p l e R s m args below meth c H locs cells slots mc ms g rest (Qc (Value.ref b :: As).toArray) (free) := by
  obtain ⟨hx, hb, hml, ho, hw⟩ := S
  have hK : Back l R p e below s args y 3 16 (PreOf R mc ms Pc) (PostOf Qc mc ms free) := kBack hw hM hp.1 F hrc hrs hR
  intro T hT X
  obtain ⟨v, vm₁, ⟨U', l2, c2, s2⟩, hW₁, X', ⟨g', mk, t, L, e1, e2, hq, h1, hL', h2, h3⟩, st⟩ := callI X hx (bytes := bytes) (maxL := maxL) ho hy1 (hw _ hL) (hw _ hin) (hw _ F.1) ⟨F.2.2.2.1, F.2.2.2.2.1⟩ hK hg (hsize.trans hml.symm) (a := b) (argsL := As) (rest := rest) (fun sig h => hn.trans (F.len sig h)) hstack hW (by rw [hb]; exact hdg)
    (fun vm₁ hW₁ => ⟨hf.1, hf.2, hp.2 (T.setVm vm₁) hT hW₁⟩)
  dsimp only [Pt.U, Pt.locs, Pt.cells, Pt.slots] at X' e1 e2 h1 h2 h3 st
  subst h1; subst h2; subst h3
  exact ⟨v, (T.setVm vm₁).calling g' mk (Value.ref b :: As).toArray, t, U', L, hT, X', hL', e1, e2, hq, st⟩
end KR
section KX1
/-- answers r, the heap stays -/
def QR (r : Option Value) : Array Value → State → Outcome → State → Prop := fun _ st o t => o = .returned r ∧ t.heap = st.heap
abbrev PR (G : GT) (as : List Value) (wd : va_W) : Array Value → State → Prop := fun v U => v = as.toArray ∧ EV G U U.heap ∧ va_P (gD G) vwCl wd U.heap
def RO (l : Launch) (G : GT) (y : MethodName) (b : ByteArray) (maxL : Nat) (ret : Option FieldType) (k : Nat) (as : List Value) (wd : va_W) (r : Option Value) : Prop := Met l y (Cond.code y b maxL ret :: BW) (rmK k 0 0) (PR G as wd) (QR r) 0 0 (fun _ => False)
theorem PR.blind {G : GT} {as : List Value} {wd : va_W} : FrameBlind (PR G as wd) := fun a U g mk q => ⟨q.1, EV.same (U := U.calling g mk a) rfl q.2.1, q.2.2⟩
theorem RO.ofW {l : Launch} {G : GT} {y : MethodName} {b : ByteArray} {maxL : Nat} {ret : Option FieldType} {k : Nat} {as : List Value} {wd : va_W} {r : Option Value} {own : String} (hc : y.cls = own) (hy : plainFor y = true) (hn : (lg_sl as).length ≤ maxL)
    (body : ∀ (p : Program) (e : Env) (s : State) (m : MethodId) (below : List Frame) (meth : Method) (c : Code), CallFix p m c b maxL s as.toArray BW own → meth.sig.returnType = ret → meth.locks = false → EV G s s.heap → va_P (gD G) vwCl wd s.heap → ∀ ls : Array Slot, lv_has ls maxL (lv_args 0 as) →
      W p l e (rmK k 0 0) s m as.toArray below meth c s.heap [] 0 0 (MQ below (QR r) as.toArray s 0 0 (fun _ => False)) (F0 m 0 ls [])) : RO l G y b maxL ret k as wd r := by
  refine va_MetF (cc := b) (maxL := maxL) (ret := ret) hy rfl ?_
  intro p e s m args below meth c s₁ B hml hv
  obtain ⟨rfl, hE, hP⟩ := hv
  have hts := atoms_spec (ws := Cond.code y b maxL ret :: BW) B.pre
  have hl := lv_entry as (n := maxL) hn
  rw [lg_entry_eq]
  refine body p e s m below meth c ⟨B.exec, B.bytes, hml, ?_, fun w hw => hts w (List.mem_cons_of_mem _ hw)⟩ B.returns B.notSynchronized hE hP _ hl
  rw [← hc]
  exact findClass_of_methodNamed B.named
variable {p : Program} {l : Launch} {e : Env} {R : Room} {s : State} {m : MethodId} {args : Array Value} {below : List Frame} {meth : Method} {c : Code} {H : Heap} {locs : List Loc} {cells slots : Nat} {Q : State → Prop}
variable {cc : ByteArray} {pc : Nat} {ls : Array Slot} {rest st0 : List Value} {G : GT} {a : Array Value}
theorem rc0 {r : Option Value} (hr : va_Run p l e R s m args below meth c H locs cells slots 0 0 (F0 m pc ls st0) rest (QR r a) (fun _ => False)) (kk : W p l e R s m args below meth c H locs cells slots Q (F0 m (pc + 3) ls (r.toList ++ rest))) : W p l e R s m args below meth c H locs cells slots Q (F0 m pc ls st0) := by
  intro T hT X
  obtain ⟨v, st₀, t, T', L, h0, X', hL, e1, e2, ⟨hv, hh⟩, st⟩ := hr T hT X
  cases hv
  obtain ⟨t2, a1, b1⟩ := kk T' (by rw [e1, hh, h0]) (Stand.forget X' (fun q h => (hL q h).elim))
  exact ⟨t2, st t2 a1, b1⟩
/-- a call of a static method that reads -/
theorem rcS {own : String} {nL index : Nat} {y : MethodName} {b : ByteArray} {maxL k n : Nat} {ret : Option FieldType} {as : List Value} {wd : va_W} {r : Option Value} (C : CallFix p m c cc nL s args BW own) (hM : RO l G y b maxL ret k as wd r) (F : CF y b maxL ret n) (hn : as.length = n) (hL : Cond.methodLink own index y ∈ BW) (hst : Cond.static y ∈ BW) (hE : EV G s H) (hP : va_P (gD G) vwCl wd H)
    (hl : ls.size = nL) (hdg : decode cc pc = .ok (.invokestatic index, 3)) (hR : (rmK k 0 0).frames + 1 ≤ R.frames ∧ 16 + (maxL + 11) + (rmK k 0 0).locals ≤ R.locals) (hs0 : st0 = as.reverse ++ rest) (hW : (rest.map fun v => v.category).sum ≤ 16) (hf : cells ≤ R.cells ∧ slots ≤ R.slots)
    (kk : W p l e R s m args below meth c H locs cells slots Q (F0 m (pc + 3) ls (r.toList ++ rest))) : W p l e R s m args below meth c H locs cells slots Q (F0 m pc ls st0) :=
  rc0 (xrunS (As := as) (rest := rest) C hM F hL hst rfl rfl hR ⟨PR.blind, fun U hU hW => ⟨rfl, by rw [hU]; exact EV.warm hW hE, by rw [hU]; exact hP⟩⟩ rfl hn hl hs0 (k_room hW) hdg hf) kk
/-- a call of an instance method that reads, on an object of the world -/
theorem rcV {own : String} {nL index : Nat} {y : MethodName} {b : ByteArray} {maxL k n : Nat} {ret : Option FieldType} {o : Nat} {as : List Value} {wd : va_W} {r : Option Value} {cl : String} (C : CallFix p m c cc nL s args BW own) (hM : RO l G y b maxL ret k (.ref o :: as) wd r) (F : CF y b maxL ret n) (hn : as.length = n) (hL : Cond.methodLink own index y ∈ BW) (hst : Cond.instanceMethod y ∈ BW) (hse : Cond.selects cl y y ∈ BW) (hE : EV G s H) (hP : va_P (gD G) vwCl wd H)
    (hrv : ∃ cellB : Cell, H[o]? = some cellB ∧ cellB.vm.isStatics = false ∧ s.vm.findClass cl = some cellB.cls)
    (hl : ls.size = nL) (hdg : decode cc pc = .ok (.invokevirtual index, 3)) (hR : (rmK k 0 0).frames + 1 ≤ R.frames ∧ 16 + (maxL + 11) + (rmK k 0 0).locals ≤ R.locals) (hs0 : st0 = as.reverse ++ .ref o :: rest) (hW : (rest.map fun v => v.category).sum ≤ 16) (hf : cells ≤ R.cells ∧ slots ≤ R.slots)
    (kk : W p l e R s m args below meth c H locs cells slots Q (F0 m (pc + 3) ls (r.toList ++ rest))) : W p l e R s m args below meth c H locs cells slots Q (F0 m pc ls st0) :=
  rc0 (xrunV (As := as) (rest := rest) (C := cl) C hM F hL hst hse rfl rfl hR ⟨PR.blind, hrv, fun U hU hW => ⟨rfl, by rw [hU]; exact EV.warm hW hE, by rw [hU]; exact hP⟩⟩ rfl hn hl hs0 (k_room hW) hdg hf) kk
theorem rcSi {own : String} {nL index : Nat} {y : MethodName} {b : ByteArray} {maxL k n : Nat} {ret : Option FieldType} {as : List Value} {wd : va_W} {v : Int32} (C : CallFix p m c cc nL s args BW own) (hM : RO l G y b maxL ret k as wd (some (.int v))) (F : CF y b maxL ret n) (hn : as.length = n) (hL : Cond.methodLink own index y ∈ BW) (hst : Cond.static y ∈ BW) (hE : EV G s H) (hP : va_P (gD G) vwCl wd H)
    (hl : ls.size = nL) (hdg : decode cc pc = .ok (.invokestatic index, 3)) (hR : (rmK k 0 0).frames + 1 ≤ R.frames ∧ 16 + (maxL + 11) + (rmK k 0 0).locals ≤ R.locals) (hs0 : st0 = as.reverse ++ rest) (hW : (rest.map fun v => v.category).sum ≤ 16) (hf : cells ≤ R.cells ∧ slots ≤ R.slots)
    (kk : W p l e R s m args below meth c H locs cells slots Q (F0 m (pc + 3) ls (.int v :: rest))) : W p l e R s m args below meth c H locs cells slots Q (F0 m pc ls st0) :=
  rcS C hM F hn hL hst hE hP hl hdg hR hs0 hW hf kk
theorem rcSl {own : String} {nL index : Nat} {y : MethodName} {b : ByteArray} {maxL k n : Nat} {ret : Option FieldType} {as : List Value} {wd : va_W} {v : Int64} (C : CallFix p m c cc nL s args BW own) (hM : RO l G y b maxL ret k as wd (some (.long v))) (F : CF y b maxL ret n) (hn : as.length = n) (hL : Cond.methodLink own index y ∈ BW) (hst : Cond.static y ∈ BW) (hE : EV G s H) (hP : va_P (gD G) vwCl wd H)
    (hl : ls.size = nL) (hdg : decode cc pc = .ok (.invokestatic index, 3)) (hR : (rmK k 0 0).frames + 1 ≤ R.frames ∧ 16 + (maxL + 11) + (rmK k 0 0).locals ≤ R.locals) (hs0 : st0 = as.reverse ++ rest) (hW : (rest.map fun v => v.category).sum ≤ 16) (hf : cells ≤ R.cells ∧ slots ≤ R.slots)
    (kk : W p l e R s m args below meth c H locs cells slots Q (F0 m (pc + 3) ls (.long v :: rest))) : W p l e R s m args below meth c H locs cells slots Q (F0 m pc ls st0) :=
  rcS C hM F hn hL hst hE hP hl hdg hR hs0 hW hf kk
theorem rcSv {own : String} {nL index : Nat} {y : MethodName} {b : ByteArray} {maxL k n : Nat} {ret : Option FieldType} {as : List Value} {wd : va_W}  (C : CallFix p m c cc nL s args BW own) (hM : RO l G y b maxL ret k as wd none) (F : CF y b maxL ret n) (hn : as.length = n) (hL : Cond.methodLink own index y ∈ BW) (hst : Cond.static y ∈ BW) (hE : EV G s H) (hP : va_P (gD G) vwCl wd H)
    (hl : ls.size = nL) (hdg : decode cc pc = .ok (.invokestatic index, 3)) (hR : (rmK k 0 0).frames + 1 ≤ R.frames ∧ 16 + (maxL + 11) + (rmK k 0 0).locals ≤ R.locals) (hs0 : st0 = as.reverse ++ rest) (hW : (rest.map fun v => v.category).sum ≤ 16) (hf : cells ≤ R.cells ∧ slots ≤ R.slots)
    (kk : W p l e R s m args below meth c H locs cells slots Q (F0 m (pc + 3) ls (rest))) : W p l e R s m args below meth c H locs cells slots Q (F0 m pc ls st0) :=
  rcS C hM F hn hL hst hE hP hl hdg hR hs0 hW hf kk
theorem rcVi {own : String} {nL index : Nat} {y : MethodName} {b : ByteArray} {maxL k n : Nat} {ret : Option FieldType} {o : Nat} {as : List Value} {wd : va_W} {v : Int32} {cl : String} (C : CallFix p m c cc nL s args BW own) (hM : RO l G y b maxL ret k (.ref o :: as) wd (some (.int v))) (F : CF y b maxL ret n) (hn : as.length = n) (hL : Cond.methodLink own index y ∈ BW) (hst : Cond.instanceMethod y ∈ BW) (hse : Cond.selects cl y y ∈ BW) (hE : EV G s H) (hP : va_P (gD G) vwCl wd H)
    (hrv : ∃ cellB : Cell, H[o]? = some cellB ∧ cellB.vm.isStatics = false ∧ s.vm.findClass cl = some cellB.cls)
    (hl : ls.size = nL) (hdg : decode cc pc = .ok (.invokevirtual index, 3)) (hR : (rmK k 0 0).frames + 1 ≤ R.frames ∧ 16 + (maxL + 11) + (rmK k 0 0).locals ≤ R.locals) (hs0 : st0 = as.reverse ++ .ref o :: rest) (hW : (rest.map fun v => v.category).sum ≤ 16) (hf : cells ≤ R.cells ∧ slots ≤ R.slots)
    (kk : W p l e R s m args below meth c H locs cells slots Q (F0 m (pc + 3) ls (.int v :: rest))) : W p l e R s m args below meth c H locs cells slots Q (F0 m pc ls st0) :=
  rcV C hM F hn hL hst hse hE hP hrv hl hdg hR hs0 hW hf kk
theorem rcVl {own : String} {nL index : Nat} {y : MethodName} {b : ByteArray} {maxL k n : Nat} {ret : Option FieldType} {o : Nat} {as : List Value} {wd : va_W} {v : Int64} {cl : String} (C : CallFix p m c cc nL s args BW own) (hM : RO l G y b maxL ret k (.ref o :: as) wd (some (.long v))) (F : CF y b maxL ret n) (hn : as.length = n) (hL : Cond.methodLink own index y ∈ BW) (hst : Cond.instanceMethod y ∈ BW) (hse : Cond.selects cl y y ∈ BW) (hE : EV G s H) (hP : va_P (gD G) vwCl wd H)
    (hrv : ∃ cellB : Cell, H[o]? = some cellB ∧ cellB.vm.isStatics = false ∧ s.vm.findClass cl = some cellB.cls)
    (hl : ls.size = nL) (hdg : decode cc pc = .ok (.invokevirtual index, 3)) (hR : (rmK k 0 0).frames + 1 ≤ R.frames ∧ 16 + (maxL + 11) + (rmK k 0 0).locals ≤ R.locals) (hs0 : st0 = as.reverse ++ .ref o :: rest) (hW : (rest.map fun v => v.category).sum ≤ 16) (hf : cells ≤ R.cells ∧ slots ≤ R.slots)
    (kk : W p l e R s m args below meth c H locs cells slots Q (F0 m (pc + 3) ls (.long v :: rest))) : W p l e R s m args below meth c H locs cells slots Q (F0 m pc ls st0) :=
  rcV C hM F hn hL hst hse hE hP hrv hl hdg hR hs0 hW hf kk
theorem rcVv {own : String} {nL index : Nat} {y : MethodName} {b : ByteArray} {maxL k n : Nat} {ret : Option FieldType} {o : Nat} {as : List Value} {wd : va_W}  {cl : String} (C : CallFix p m c cc nL s args BW own) (hM : RO l G y b maxL ret k (.ref o :: as) wd none) (F : CF y b maxL ret n) (hn : as.length = n) (hL : Cond.methodLink own index y ∈ BW) (hst : Cond.instanceMethod y ∈ BW) (hse : Cond.selects cl y y ∈ BW) (hE : EV G s H) (hP : va_P (gD G) vwCl wd H)
    (hrv : ∃ cellB : Cell, H[o]? = some cellB ∧ cellB.vm.isStatics = false ∧ s.vm.findClass cl = some cellB.cls)
    (hl : ls.size = nL) (hdg : decode cc pc = .ok (.invokevirtual index, 3)) (hR : (rmK k 0 0).frames + 1 ≤ R.frames ∧ 16 + (maxL + 11) + (rmK k 0 0).locals ≤ R.locals) (hs0 : st0 = as.reverse ++ .ref o :: rest) (hW : (rest.map fun v => v.category).sum ≤ 16) (hf : cells ≤ R.cells ∧ slots ≤ R.slots)
    (kk : W p l e R s m args below meth c H locs cells slots Q (F0 m (pc + 3) ls (rest))) : W p l e R s m args below meth c H locs cells slots Q (F0 m pc ls st0) :=
  rcV C hM F hn hL hst hse hE hP hrv hl hdg hR hs0 hW hf kk
/-- ends of a method that reads -/
theorem re_i {v : Int32} {r : Option Value} (hx : p.tables.exec = Jvm.exec) (hb : c.code = cc) (hr : meth.sig.returnType = some .int) (hk : meth.locks = false) (hdg : decode cc pc = .ok (.ireturn, 1)) (er : r = some (.int v)) : W p l e R s m args below meth c s.heap [] 0 0 (MQ below (QR r) args s 0 0 (fun _ => False)) (F0 m pc ls [.int v]) := by
  subst er
  exact W.iret hx hb hr (fun t ht _ => ⟨rfl, ht⟩) (fun _ h => nomatch h) hdg hk
theorem re_z {v : Int32} {r : Option Value} {ty : FieldType} (hx : p.tables.exec = Jvm.exec) (hb : c.code = cc) (hr : meth.sig.returnType = some ty) (hk : meth.locks = false) (hn : narrow ty (.int v) = .int v) (hdg : decode cc pc = .ok (.ireturn, 1)) (er : r = some (.int v)) : W p l e R s m args below meth c s.heap [] 0 0 (MQ below (QR r) args s 0 0 (fun _ => False)) (F0 m pc ls [.int v]) := by
  subst er
  exact W.zret hx hb hr hn (fun t ht _ => ⟨rfl, ht⟩) (fun _ h => nomatch h) hdg hk
theorem re_l {v : Int64} {r : Option Value} (hx : p.tables.exec = Jvm.exec) (hb : c.code = cc) (hr : meth.sig.returnType = some .long) (hk : meth.locks = false) (hdg : decode cc pc = .ok (.lreturn, 1)) (er : r = some (.long v)) : W p l e R s m args below meth c s.heap [] 0 0 (MQ below (QR r) args s 0 0 (fun _ => False)) (F0 m pc ls [.long v]) := by
  subst er
  exact W.lret hx hb hr (fun t ht _ => ⟨rfl, ht⟩) (fun _ h => nomatch h) hdg hk
theorem ei {v w : Int32} (h : v = w) : some (Value.int v) = some (Value.int w) := by rw [h]
theorem el {v w : Int64} (h : v = w) : some (Value.long v) = some (Value.long w) := by rw [h]
end KX1
section KX2
variable {p : Program} {l : Launch} {e : Env} {R : Room} {s : State} {m : MethodId} {args : Array Value} {below : List Frame} {meth : Method} {c : Code} {H : Heap} {locs : List Loc} {cells slots : Nat} {Q : State → Prop}
variable {cc : ByteArray} {pc : Nat} {ls : Array Slot} {rest st0 : List Value} {G : GT}
theorem k_foldi {x y : Int32} (h : x = y) (k : W p l e R s m args below meth c H locs cells slots Q (F0 m pc ls (.int y :: rest))) : W p l e R s m args below meth c H locs cells slots Q (F0 m pc ls (.int x :: rest)) := by rw [h]; exact k
theorem k_foldl {x y : Int64} (h : x = y) (k : W p l e R s m args below meth c H locs cells slots Q (F0 m pc ls (.long y :: rest))) : W p l e R s m args below meth c H locs cells slots Q (F0 m pc ls (.long x :: rest)) := by rw [h]; exact k
theorem vpn {D : va_G} {cl : List vw_C} : va_P D cl [] H := fun k q h => by simp at h
theorem re_v {r : Option Value} (hx : p.tables.exec = Jvm.exec) (hb : c.code = cc) (hr : meth.sig.returnType = none) (hk : meth.locks = false) (hdg : decode cc pc = .ok (.return_, 1)) (er : r = none) : W p l e R s m args below meth c s.heap [] 0 0 (MQ below (QR r) args s 0 0 (fun _ => False)) (F0 m pc ls []) := by
  subst er
  exact W.vret hx hb hr (fun t ht _ => ⟨rfl, ht⟩) (fun _ h => nomatch h) hdg hk
theorem vp_in_lit (k : Nat) {n : Nat} {x : Int32} (hx : x = nI k := by decide) (h : k < n := by decide) (hn : n < 2 ^ 31 := by decide) : vp_in x n := by rw [hx]; exact vp_in_nI h hn
end KX2
theorem bz {c : Prop} [Decidable c] {a b : Int32} (ha : narrow .boolean (.int a) = .int a) (hb : narrow .boolean (.int b) = .int b) : narrow .boolean (.int (if c then a else b)) = .int (if c then a else b) := by
  by_cases h : c
  · rw [if_pos h]; exact ha
  · rw [if_neg h]; exact hb
theorem k_dia {b : Prop} [Decidable b] {A : Prop} {x y : Int32} {Wg : Int32 → Prop} (k : Wg (if b then x else y)) (h : (b → Wg x) → (¬ b → Wg y) → A) : A :=
  h (fun hb => by rw [if_pos hb] at k; exact k) (fun hb => by rw [if_neg hb] at k; exact k)
theorem vin_nn {x : Int32} {n : Nat} (h : vp_in x n) : ¬ x < 0 := fun q => h (Or.inl q)
theorem vin_lt {x : Int32} {n : Nat} {N : Int32} (hN : N.toInt = n) (h : vp_in x n) : x < N := by
  have h1 := (vp_in_iff.mp h).2
  rw [Int32.lt_iff_toInt_lt, hN]; exact h1
theorem vin_le {x : Int32} {n : Nat} {N : Int32} (hN : N.toInt + 1 = n) (h : vp_in x n) : x ≤ N := by
  have h1 := (vp_in_iff.mp h).2
  rw [Int32.le_iff_toInt_le]; omega
