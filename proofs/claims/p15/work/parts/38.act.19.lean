theorem act_hand {S : SX} {T : SM} {n : Int64} {p0 p1 p2 p3 c9 : Int32} {n9 : Int64} {S9 : SX} (hR : Rel S T) (h9 : H_hand S n p0 p1 p2 p3 c9 n9 S9) : Rel S9 (gX2_hand T p0 p1 p2 p3).2 ∧ (fX2_thrown (gX2_hand T p0 p1 p2 p3).2 = c9 ∧ (c9 = 0 → n9 = ((gX2_hand T p0 p1 p2 p3).1).toInt64)) := by
  obtain ⟨⟨th, rfl⟩, hI⟩ := hR
  rcases h9 with ⟨h, e1, e2, e3⟩ | ⟨hR, e1, e2, e3⟩
  all_goals (have e1 := e1.symm; have e2 := e2.symm; have e3 := e3.symm; subst e1; subst e2; subst e3)
  · rw [b2_hand h]
    exact ⟨⟨⟨_, rfl⟩, hI⟩, rfl, fun z => absurd z (by decide)⟩
  · exact fin_W (g_hand (th := th) hI hR)
theorem rel_hand {S : SX} {T : SM} {n : Int64} {p0 p1 p2 p3 c9 : Int32} {n9 : Int64} {S9 : SX} (hR : Rel S T) (h9 : H_hand S n p0 p1 p2 p3 c9 n9 S9) : Rel S9 (gX2_hand T p0 p1 p2 p3).2 := (act_hand hR h9).1
theorem cmp_hand {S : SX} {T : SM} {n : Int64} {p0 p1 p2 p3 c9 : Int32} {n9 : Int64} {S9 : SX} (hR : Rel S T) (h9 : H_hand S n p0 p1 p2 p3 c9 n9 S9) : fX2_thrown (gX2_hand T p0 p1 p2 p3).2 = c9 ∧ (c9 = 0 → n9 = ((gX2_hand T p0 p1 p2 p3).1).toInt64) := (act_hand hR h9).2
theorem b2_house {S : SX} {th p0 : Int32} (h : ¬ ((¬ p0 < (0 : Int32) ∧ p0 ≤ (5 : Int32)))) : gX2_house (mkM th S) p0 = ((0 : Int32), mkM 1 S) := by
  unfold gX2_house
  rw [from_0 h]
  exact if_neg (by decide)
theorem g_house {S : SX} {th p0 : Int32} (hI : Inv S) (hR : (¬ p0 < (0 : Int32) ∧ p0 ≤ (5 : Int32))) : gX2_house (mkM th S) p0 = (fX0_house S p0, mkM 0 S) := by
  unfold gX2_house; rw [from_1 hR.1 hR.2]
  refine (if_pos (by decide)).trans ?_
  exact congrArg (fun z => (z, mkM 0 S)) (house_eq (th := 0) hI)
theorem act_house {S : SX} {T : SM} {n : Int64} {p0 c9 : Int32} {n9 : Int64} {S9 : SX} (hR : Rel S T) (h9 : H_house S n p0 c9 n9 S9) : Rel S9 (gX2_house T p0).2 ∧ (fX2_thrown (gX2_house T p0).2 = c9 ∧ (c9 = 0 → n9 = ((gX2_house T p0).1).toInt64)) := by
  obtain ⟨⟨th, rfl⟩, hI⟩ := hR
  rcases h9 with ⟨h, e1, e2, e3⟩ | ⟨hR, e1, e2, e3⟩
  all_goals (have e1 := e1.symm; have e2 := e2.symm; have e3 := e3.symm; subst e1; subst e2; subst e3)
  · rw [b2_house h]
    exact ⟨⟨⟨_, rfl⟩, hI⟩, rfl, fun z => absurd z (by decide)⟩
  · rw [g_house (th := th) hI hR]
    exact ⟨⟨⟨0, rfl⟩, hI⟩, rfl, fun _ => rfl⟩
theorem rel_house {S : SX} {T : SM} {n : Int64} {p0 c9 : Int32} {n9 : Int64} {S9 : SX} (hR : Rel S T) (h9 : H_house S n p0 c9 n9 S9) : Rel S9 (gX2_house T p0).2 := (act_house hR h9).1
theorem cmp_house {S : SX} {T : SM} {n : Int64} {p0 c9 : Int32} {n9 : Int64} {S9 : SX} (hR : Rel S T) (h9 : H_house S n p0 c9 n9 S9) : fX2_thrown (gX2_house T p0).2 = c9 ∧ (c9 = 0 → n9 = ((gX2_house T p0).1).toInt64) := (act_house hR h9).2
/-! a constructor of a class of the same nest -/
section KN
variable {p : Program} {l : Launch} {e : Env} {R : Room} {s : State} {m : MethodId} {args : Array Value} {below : List Frame} {meth : Method} {c : Code} {H : Heap} {locs : List Loc} {cells slots : Nat} {Q : State → Prop}
variable {cc : ByteArray} {pc : Nat} {ls : Array Slot} {rest st0 : List Value} {G : GT}
theorem weIN {own host : String} {nL index : Nat} {y : MethodName} {b : ByteArray} {maxL k n mc ms : Nat} {o : Nat} {as : List Value} {wr wd : va_W} {P : Option Value → va_W → Prop} {A : Nat → Prop} (C : CallFix p m c cc nL s args BW own) (hM : WE l G y b maxL none k mc ms (.ref o :: as) wd P) (F : CF y b maxL none n) (hn : as.length = n) (hL : va_Nw (.methodLinkNest own index y host) s) (hst : Cond.instanceMethod y ∈ BW) (hy1 : y.name = "<init>") (hE : EV G s H) (hP : va_P (gD G) vwCl (wr ++ wd) H) (hD : va_D A (wr ++ wd)) (hS : va_S A s.heap H locs) (hA : ∀ q : Nat, s.heap.size ≤ q → A q) (hAB : ∀ q : Nat, A q → gB G ≤ q)
    (hl : ls.size = nL) (hdg : decode cc pc = .ok (.invokespecial index, 3)) (hR : (rmK k mc ms).frames + 1 ≤ R.frames ∧ 8 + (maxL + 11) + (rmK k mc ms).locals ≤ R.locals) (hs0 : st0 = as.reverse ++ .ref o :: rest) (hW : (rest.map fun v => v.category).sum ≤ 8) (hf : cells + mc ≤ R.cells ∧ slots + ms ≤ R.slots)
    (kk : ∀ (r : Option Value) (wd' : va_W) (H1 : Heap) (locs1 : List Loc), P r wd' → va_P (gD G) vwCl (wr ++ wd') H1 → va_D A (wr ++ wd') → va_S A s.heap H1 locs1 → W p l e R s m args below meth c H1 locs1 (cells + mc) (slots + ms) Q (F0 m (pc + 3) ls (r.toList ++ rest))) : W p l e R s m args below meth c H locs cells slots Q (F0 m pc ls st0) :=
  we0 hP hD hS hA (va_runIN (b := o) (As := as) (rest := rest) C (hM H.size) ⟨va_cnB n C.2.2.2.2 (gcBW F.1) rfl rfl rfl hL (C.2.2.2.2 _ F.2.1) F.2.2.2 hR, hy1, C.2.2.2.2 _ hst⟩ ⟨PW.blind, fun U hU hW => ⟨rfl, by rw [hU], by rw [hU]; exact EV.warm hW hE, by rw [hU]; exact P_tl hP, (D_tl hD).weaken (fun _ q _ h => hAB q.1 h)⟩⟩ rfl hn hl hs0 (lv_room hW) hdg hf) kk
end KN
theorem inv_0 : Inv sx0 := by
  refine ⟨fun j hj => ?_, by decide, by decide, by decide, by decide⟩
  have k : j = 0 ∨ j = 1 ∨ j = 2 ∨ j = 3 ∨ j = 4 ∨ j = 5 := by omega
  have h : DV (2000 : Int32) (1 : Int32) (1 : Int32) ∧ fX0_firstDayOf (2000 : Int32) = fX0_dayOf (2000 : Int32) (1 : Int32) (1 : Int32) ∧ TV (0 : Int64) := by
    refine ⟨⟨?_, ?_, by decide, by decide +kernel⟩, by decide +kernel, ?_⟩
    · unfold YR; decide
    · unfold MN; decide
    · unfold TV; decide
  rcases k with rfl | rfl | rfl | rfl | rfl | rfl <;> exact h
theorem rel_init : Rel sx0 sm0 := by
  refine ⟨⟨0, ?_⟩, inv_0⟩
  show sm0 = ((0 : Int32), xy sx0, xm sx0, xd sx0, xN sx0, sx0.2.2.2.2.2)
  rfl
theorem rel_digest {S : SX} {T : SM} (hR : Rel S T) : Rel S (gX2_digest T).2 := by
  obtain ⟨⟨th, rfl⟩, hI⟩ := hR
  exact ⟨⟨0, rfl⟩, hI⟩
