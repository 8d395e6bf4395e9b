/-! methods that throw: a new exception goes out, nothing old is changed -/
section KT
theorem kB8 {R : Room} {s : State} {args : Array Value} {own : String} {index : Nat} {y : MethodName} {b : ByteArray} {maxL : Nat} {ret : Option FieldType} {rm : Room} {mc ms n : Nat} (hw : ∀ w ∈ BW, w.before args s = true) (F : CF y b maxL ret n) (hL : Cond.methodLink own index y ∈ BW) (hrc : rm.cells = mc) (hrs : rm.slots = ms) (hR : rm.frames + 1 ≤ R.frames ∧ 8 + (maxL + 11) + rm.locals ≤ R.locals) : CallB R s args own index y b maxL ret (Cond.code y b maxL ret :: BW) rm mc ms n :=
  callB_of (Ts := BW) n hw (gcBW F.1) rfl hrc hrs (hw _ F.2.1) (hw _ hL) F.2.2.2 hR
abbrev eI : String := "java/lang/IndexOutOfBoundsException"
abbrev eA : String := "java/lang/IllegalArgumentException"
abbrev eN : List String := ["java/lang/RuntimeException", "java/lang/Exception"]
def win_I : List Cond := (([5, 6, 7, 9, 27, 28, 29, 236].filterMap (fun i => tables_1_1[i]?)) ++ (([18, 19, 20, 21, 22, 23, 27, 29, 31, 33, 35, 36, 37, 38, 39, 40, 41, 42, 43, 44, 45, 46, 47, 48, 49, 50, 51, 52, 53, 54, 60, 61, 62, 63, 64, 65, 66, 67, 68, 69, 70, 71, 72, 73, 74, 75, 76, 78, 79, 95, 96, 97, 98, 99, 100, 101, 102, 104, 105, 106, 107, 108, 109].filterMap (fun i => tables_1_2[i]?)) ++ (([9, 178].filterMap (fun i => tables_1_4[i]?)) ++ (([146].filterMap (fun i => tables_1_5[i]?)) ++ ([143].filterMap (fun i => tables_1_7[i]?))))))
theorem win_I_in : ∀ w ∈ win_I, w ∈ lw_tbl := fun w h => by
  unfold win_I at h
  exact (List.mem_append.mp h).elim (fun h => mK1 _ rfl w h) (fun h => (List.mem_append.mp h).elim (fun h => mK2 _ rfl w h) (fun h => (List.mem_append.mp h).elim (fun h => mK4 _ rfl w h) (fun h => (List.mem_append.mp h).elim (fun h => mK5 _ rfl w h) (fun h => mK7 _ rfl w h))))
def win_A : List Cond := (([5, 6, 7, 8, 27, 28, 29, 236].filterMap (fun i => tables_1_1[i]?)) ++ (([16, 17, 18, 19, 20, 21, 22, 23, 24, 25, 26, 27, 28, 29, 30, 31, 32, 33, 34, 35, 36, 37, 38, 39, 40, 41, 42, 43, 44, 45, 46, 47, 49, 50, 51, 52, 53, 54, 56, 57, 58, 59, 60, 61, 62, 63, 64, 65, 66, 67, 68, 69, 70, 71, 72, 73, 74, 75, 76, 77, 78, 79, 80].filterMap (fun i => tables_1_2[i]?)) ++ (([9, 178].filterMap (fun i => tables_1_4[i]?)) ++ (([146].filterMap (fun i => tables_1_5[i]?)) ++ ([143].filterMap (fun i => tables_1_7[i]?))))))
theorem win_A_in : ∀ w ∈ win_A, w ∈ lw_tbl := fun w h => by
  unfold win_A at h
  exact (List.mem_append.mp h).elim (fun h => mK1 _ rfl w h) (fun h => (List.mem_append.mp h).elim (fun h => mK2 _ rfl w h) (fun h => (List.mem_append.mp h).elim (fun h => mK4 _ rfl w h) (fun h => (List.mem_append.mp h).elim (fun h => mK5 _ rfl w h) (fun h => mK7 _ rfl w h))))
theorem at_I : ∀ w ∈ (vx_atS RX0 204 eI eN).filter goodWord, w ∈ BW := by
  have h : ∀ w ∈ (vx_atS RX0 204 eI eN).filter goodWord, w ∈ win_I := by decide +kernel
  exact fun w hw => lBW (win_I_in w (h w hw)) (List.mem_filter.mp hw).2
theorem at_A : ∀ w ∈ (vx_atS RX0 211 eA eN).filter goodWord, w ∈ BW := by
  have h : ∀ w ∈ (vx_atS RX0 211 eA eN).filter goodWord, w ∈ win_A := by decide +kernel
  exact fun w hw => lBW (win_A_in w (h w hw)) (List.mem_filter.mp hw).2
theorem declOf {x : MethodName} {b : ByteArray} {n : Nat} {r : Option FieldType} {args : Array Value} {s : State} (h1 : (Cond.code x b n r).before args s = true) (h2 : (Cond.instanceMethod x).before args s = true) : (Cond.declares x).before args s = true := by
  obtain ⟨m, meth, hn, hm, hst, hab⟩ := Cond.instanceMethod_spec h2
  obtain ⟨meth', c, hm', -, -, -, -, -, -, hsig⟩ := Cond.code_spec hn h1
  have e := Option.some.inj (hm.symm.trans hm')
  subst e
  simp [Cond.before, Cond.holds, Cond.value, hn, hm, hst, hsig]
abbrev bad9 (X : String) : List Cond := [.declares (Bundle.initS "java/lang/RuntimeException"), .declares (Bundle.initS "java/lang/Exception"), .declares (Bundle.initS Bundle.tN), .castable X X]
theorem an_I : (vx_atS RX0 204 eI eN).filter (fun w => !goodWord w) = bad9 eI := by decide +kernel
theorem an_A : (vx_atS RX0 211 eA eN).filter (fun w => !goodWord w) = bad9 eA := by decide +kernel
theorem cw_1 : Cond.code (Bundle.initS "java/lang/RuntimeException") Bundle.six 2 none ∈ (vx_atS RX0 204 eI eN).filter goodWord := by decide +kernel
theorem cw_2 : Cond.code (Bundle.initS "java/lang/Exception") Bundle.six 2 none ∈ (vx_atS RX0 204 eI eN).filter goodWord := by decide +kernel
theorem cw_3 : Cond.code (Bundle.initS Bundle.tN) LibCode.Throwable.InitS.code 2 none ∈ (vx_atS RX0 204 eI eN).filter goodWord := by decide +kernel
theorem iw_1 : Cond.instanceMethod (Bundle.initS "java/lang/RuntimeException") ∈ (vx_atS RX0 204 eI eN).filter goodWord := by decide +kernel
theorem iw_2 : Cond.instanceMethod (Bundle.initS "java/lang/Exception") ∈ (vx_atS RX0 204 eI eN).filter goodWord := by decide +kernel
theorem iw_3 : Cond.instanceMethod (Bundle.initS Bundle.tN) ∈ (vx_atS RX0 204 eI eN).filter goodWord := by decide +kernel
theorem castXX {args : Array Value} {s : State} {X : String} {n : Nat} (h : (Cond.instantiable X n).before args s = true) : (Cond.castable X X).before args s = true := by
  obtain ⟨c, k, hc, -⟩ := Cond.instantiable_spec h
  simp [Cond.before, Cond.holds, Cond.value, hc, va_asg]
theorem hat9 {args : Array Value} {s : State} {X : String} {n : Nat} (hw : ∀ w ∈ BW, w.before args s = true) (hi : (Cond.instantiable X n).before args s = true) : ∀ w ∈ bad9 X, w.before args s = true :=
  vx_c (declOf (hw _ (at_I _ cw_1)) (hw _ (at_I _ iw_1))) (vx_c (declOf (hw _ (at_I _ cw_2)) (hw _ (at_I _ iw_2))) (vx_c (declOf (hw _ (at_I _ cw_3)) (hw _ (at_I _ iw_3))) (vx_c (castXX hi) vx_n)))
def XT (E : String) (sz : Nat) : String → State → State → Prop := fun E' st t => E' = E ∧ va_F (fun x => sz ≤ x) st t
def TH (l : Launch) (G : GT) (y : MethodName) (b : ByteArray) (maxL : Nat) (ret : Option FieldType) (k : Nat) (as : List Value) (E : String) : Prop := ∀ sz : Nat, vx_Met l y (Cond.code y b maxL ret :: BW) (rmK k 1 6) (fun v U => v = as.toArray ∧ U.heap.size = sz ∧ EV G U U.heap) (fun _ _ _ _ => False) (XT E sz) 1 6 (fun x => sz ≤ x)
theorem TH.ofW {l : Launch} {G : GT} {y : MethodName} {b : ByteArray} {maxL : Nat} {ret : Option FieldType} {k : Nat} {as : List Value} {E : String} {own : String} (hc : y.cls = own) (hy : plainName y.cls = true) (hn : (lg_sl as).length ≤ maxL)
    (body : ∀ (p : Program) (e : Env) (s : State) (m : MethodId) (below : List Frame) (meth : Method) (c : Code), CallFix p m c b maxL s as.toArray BW own → (∀ x ∈ c.exceptionTable.toList, False) → meth.locks = false → EV G s s.heap → ∀ ls : Array Slot, lv_has ls maxL (lv_args 0 as) →
      W p l e (rmK k 1 6) s m as.toArray below meth c s.heap [] 0 0 (vx_MQ below (fun _ _ _ _ => False) (XT E s.heap.size) as.toArray s 1 6 (fun x => s.heap.size ≤ x)) (F0 m 0 ls [])) : TH l G y b maxL ret k as E := by
  intro sz
  refine vx_ofW (cc := b) (maxL := maxL) (ret := ret) hy rfl ?_
  intro p e s m args below meth c s₁ B hml ht hv
  obtain ⟨rfl, hsz, hE⟩ := hv
  subst hsz
  have hts := atoms_spec (ws := Cond.code y b maxL ret :: BW) B.pre
  have hl := lv_entry as (n := maxL) hn
  rw [lg_entry_eq]
  refine body p e s m below meth c ⟨B.exec, B.bytes, hml, ?_, fun w hw => hts w (List.mem_cons_of_mem _ hw)⟩ ht B.notSynchronized hE _ hl
  rw [← hc]
  exact findClass_of_methodNamed B.named
variable {p : Program} {l : Launch} {e : Env} {R : Room} {s : State} {m : MethodId} {args : Array Value} {below : List Frame} {meth : Method} {c : Code} {H : Heap} {locs : List Loc} {cells slots : Nat} {Q : State → Prop}
variable {cc : ByteArray} {pc : Nat} {ls : Array Slot} {rest st0 : List Value} {G : GT} {a : Array Value}
theorem TH.blind {as : List Value} {sz : Nat} : FrameBlind (fun v U => v = as.toArray ∧ U.heap.size = sz ∧ EV G U U.heap) := fun a U g mk q => ⟨q.1, q.2.1, EV.same (U := U.calling g mk a) rfl q.2.2⟩
/-- what a call that throws leaves -/
theorem th0 {E : String} {sz : Nat} (hz : sz = H.size) {st1 : List Value} (hr : vx_Run p l e R s m args below meth c H locs cells slots 1 6 (F0 m pc ls st0) rest (fun _ _ _ => False) (XT E sz) (fun x => sz ≤ x)) (hS : va_S (fun x => s.heap.size ≤ x) s.heap H locs)
    (kx : ∀ (q9 : Addr) (ce : Cell) (H1 : Heap) (locs1 : List Loc), H.size ≤ H1.size → (∀ x : Nat, x < H.size → H1[x]? = H[x]?) → va_S (fun x => s.heap.size ≤ x) s.heap H1 locs1 → H1[q9]? = some ce → ce.vm = .none → s.vm.findClass E = some ce.cls → vx_W p l e R s m args below meth c H1 locs1 (cells + 1) (slots + 6) Q (F0 m pc ls rest) q9) : W p l e R s m args below meth c H locs cells slots Q (F0 m pc ls st0) := by
  subst hz
  intro T hT X
  rcases hr T hT X with ⟨v, st₀, t, T', L, h0, X', hL, e1, e2, hf, st⟩ | ⟨q, st₀, t, T', L, E', ce, h0, X', hL, e1, e2, ⟨hE, hz, hk⟩, hce, hcv, hcl, st⟩
  · exact hf.elim
  · subst hE
    rw [h0] at hz hk
    have ho : ∀ x : Nat, x < H.size → T'.heap[x]? = H[x]? := fun x hx => by rw [e1]; exact hk x hx (fun z => absurd z (Nat.not_le.mpr hx))
    obtain ⟨t2, a1, b1⟩ := kx q ce T'.heap (locs ++ L) (by rw [e1]; exact hz) ho
      ⟨Nat.le_trans hS.1 (by rw [e1]; exact hz), fun x h1 h2 => by rw [ho x (Nat.lt_of_lt_of_le h1 hS.1)]; exact hS.2.1 x h1 h2, fun x hx => by
        rcases List.mem_append.mp hx with h | h
        · exact hS.2.2 x h
        · exact Nat.le_trans hS.1 (hL x h)⟩ (by rw [e1]; exact hce) hcv hcl T' rfl X'
    exact ⟨t2, st.trans a1, b1⟩
/-- a call that throws, in a method that lets it go -/
theorem thS {own : String} {nL index : Nat} {y : MethodName} {b : ByteArray} {maxL k n K : Nat} {ret : Option FieldType} {as : List Value} {E : String} (C : CallFix p m c cc nL s args BW own) (hM : TH l G y b maxL ret k as E) (F : CF y b maxL ret n) (hn : as.length = n) (hL : Cond.methodLink own index y ∈ BW) (hst : Cond.static y ∈ BW) (hE : EV G s s.heap) (ht : ∀ x ∈ c.exceptionTable.toList, False) (hk : meth.locks = false)
    (hl : ls.size = nL) (hdg : decode cc pc = .ok (.invokestatic index, 3)) (hR : (rmK k 1 6).frames + 1 ≤ (rmK K 1 6).frames ∧ 8 + (maxL + 11) + (rmK k 1 6).locals ≤ (rmK K 1 6).locals) (hs0 : st0 = as.reverse ++ rest) (hW : (rest.map fun v => v.category).sum ≤ 8) :
    W p l e (rmK K 1 6) s m args below meth c s.heap [] 0 0 (vx_MQ below (fun _ _ _ _ => False) (XT E s.heap.size) args s 1 6 (fun x => s.heap.size ≤ x)) (F0 m pc ls st0) :=
  th0 (st1 := []) rfl (vx_runS (As := as) (rest := rest) C (hM s.heap.size) ⟨kB8 C.2.2.2.2 F hL rfl rfl hR, C.2.2.2.2 _ hst⟩ ⟨TH.blind, fun U hU hW => ⟨rfl, by rw [hU], by rw [hU]; exact EV.warm hW hE⟩⟩ rfl hn hl hs0 (lv_room hW) hdg ⟨Nat.le_refl _, Nat.le_refl _⟩) va_S.rf
    (fun q9 ce H1 locs1 hz ho hS hce hcv hcl => vx_out (E := E) (ce := ce) (fun x hx => (ht x hx).elim) hk hce hcv hcl (fun t ht9 _ => ⟨rfl, hS.F ht9⟩) hS.2.2 (Nat.le_refl _) (Nat.le_refl _))
end KT
theorem vin_of {x : Int32} (h : ¬ x < 0) (h2 : x < 6) : vp_in x 6 := by
  rw [vp_in_iff]
  have a1 : ¬ x.toInt < 0 := fun q => h (Int32.lt_iff_toInt_lt.mpr q)
  have a2 := Int32.lt_iff_toInt_lt.mp h2
  have e : (6 : Int32).toInt = 6 := by decide
  omega
