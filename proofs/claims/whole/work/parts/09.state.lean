/-! the state of the class (S) and of the reference (T), and the cells that hold them -/
abbrev SX : Type := (Nat → Int32) × (Nat → Int32) × (Nat → Int32) × (Nat → Int64) × (Nat → Int64) × (Nat → Int32)
abbrev xy (S : SX) : Nat → Int32 := S.1
abbrev xm (S : SX) : Nat → Int32 := S.2.1
abbrev xd (S : SX) : Nat → Int32 := S.2.2.1
abbrev xD (S : SX) : Nat → Int64 := S.2.2.2.1
abbrev xN (S : SX) : Nat → Int64 := S.2.2.2.2.1
abbrev xi (S : SX) (k : Nat) : Int32 := S.2.2.2.2.2 k
def wX (G : GT) (a : Nat → Nat) (S : SX) : va_W := [(a 0, .inr (2, [.ref (a 1), .ref (a 2), .ref (a 3), .ref (a 4), .ref (a 5), .int (xi S 0), .int (xi S 1), .int (xi S 2), .int (xi S 3), .int (xi S 4), .int (xi S 5), .int (xi S 6)])), (a 1, .inl (gC G 0, 6, .inl (xy S))), (a 2, .inl (gC G 0, 6, .inl (xm S))), (a 3, .inl (gC G 0, 6, .inl (xd S))), (a 4, .inl (gC G 1, 6, .inr (.inl (xD S)))), (a 5, .inl (gC G 1, 6, .inr (.inl (xN S))))]
abbrev SM : Type := Int32 × (Nat → Int32) × (Nat → Int32) × (Nat → Int32) × (Nat → Int64) × (Nat → Int32)
abbrev mth (T : SM) : Int32 := T.1
abbrev my (T : SM) : Nat → Int32 := T.2.1
abbrev mm (T : SM) : Nat → Int32 := T.2.2.1
abbrev md (T : SM) : Nat → Int32 := T.2.2.2.1
abbrev mt (T : SM) : Nat → Int64 := T.2.2.2.2.1
abbrev mi (T : SM) (k : Nat) : Int32 := T.2.2.2.2.2 k
def wM (G : GT) (b : Nat → Nat) (T : SM) : va_W := [(b 0, .inr (4, [.int (mth T), .ref (b 1), .ref (b 2), .ref (b 3), .ref (b 4), .int (mi T 0), .int (mi T 1), .int (mi T 2), .int (mi T 3), .int (mi T 4), .int (mi T 5), .int (mi T 6)])), (b 1, .inl (gC G 0, 6, .inl (my T))), (b 2, .inl (gC G 0, 6, .inl (mm T))), (b 3, .inl (gC G 0, 6, .inl (md T))), (b 4, .inl (gC G 1, 6, .inr (.inl (mt T))))]
theorem vp_da {x : Int32} (h1 : ¬ x < 1) (h2 : x ≤ 12) : vp_in (x - 1) 12 := by
  rw [vp_in_iff]
  have a1 : ¬ x.toInt < 1 := fun h => h1 (Int32.lt_iff_toInt_lt.mpr h)
  have a2 : x.toInt ≤ 12 := Int32.le_iff_toInt_le.mp h2
  have e : (x - 1).toInt = x.toInt - 1 := by
    rw [Int32.toInt_sub]
    have : (1 : Int32).toInt = 1 := by decide
    rw [this]
    exact Int.bmod_eq_of_le (by omega) (by omega)
  rw [e]
  omega
theorem lg_cmp0 {x y : Int64} : lg_cmp x y = 0 ↔ x = y := by
  unfold lg_cmp
  by_cases h1 : x > y
  · rw [if_pos h1]
    refine ⟨fun h => absurd h (by decide), fun h => ?_⟩
    subst h
    exact absurd h1 (Int64.lt_irrefl)
  · rw [if_neg h1]
    by_cases h2 : x = y
    · rw [if_pos h2]; exact ⟨fun _ => h2, fun _ => rfl⟩
    · rw [if_neg h2]; exact ⟨fun h => absurd h (by decide), fun h => absurd h h2⟩
def MO (T : SM) : Prop := ∀ j : Nat, j < 6 → mm T j ≤ 12
theorem MO.at {T : SM} (h : MO T) {x : Int32} (hx : vp_in x 6) : mm T x.toNatClampNeg ≤ 12 := h _ (Nat.not_le.mp fun q => hx (Or.inr q))
theorem MO.upd {T T' : SM} (h : MO T) {i : Nat} {v : Int32} (hv : v ≤ 12) (e : mm T' = upd (mm T) i v) : MO T' := by
  intro j hj
  rw [e]
  by_cases hi : j = i
  · subst hi; rw [pk_us]; exact hv
  · rw [pk_un hi]; exact h j hj
theorem MO.same {T T' : SM} (h : MO T) (e : mm T' = mm T) : MO T' := by
  intro j hj
  rw [e]; exact h j hj

theorem rv0 {G : GT} {U : State} {H : Heap} {w : va_W} {o q0 : Nat} {fs : List Value} (hK : va_K (gD G) vwCl (gT G) U) (hP : va_P (gD G) vwCl w H) (he : w[q0]? = some (o, .inr (0, fs))) : ∃ cell : Cell, H[o]? = some cell ∧ cell.vm.isStatics = false ∧ U.vm.findClass RJ0 = some cell.cls := va_recv hK hP (ci := 0) (q := (RJ0, TJ0, 4)) rfl he
theorem rv1 {G : GT} {U : State} {H : Heap} {w : va_W} {o q0 : Nat} {fs : List Value} (hK : va_K (gD G) vwCl (gT G) U) (hP : va_P (gD G) vwCl w H) (he : w[q0]? = some (o, .inr (1, fs))) : ∃ cell : Cell, H[o]? = some cell ∧ cell.vm.isStatics = false ∧ U.vm.findClass RJ4 = some cell.cls := va_recv hK hP (ci := 1) (q := (RJ4, TJ4, 4)) rfl he
theorem rv2 {G : GT} {U : State} {H : Heap} {w : va_W} {o q0 : Nat} {fs : List Value} (hK : va_K (gD G) vwCl (gT G) U) (hP : va_P (gD G) vwCl w H) (he : w[q0]? = some (o, .inr (2, fs))) : ∃ cell : Cell, H[o]? = some cell ∧ cell.vm.isStatics = false ∧ U.vm.findClass RX0 = some cell.cls := va_recv hK hP (ci := 2) (q := (RX0, TX0, 12)) rfl he
theorem rv3 {G : GT} {U : State} {H : Heap} {w : va_W} {o q0 : Nat} {fs : List Value} (hK : va_K (gD G) vwCl (gT G) U) (hP : va_P (gD G) vwCl w H) (he : w[q0]? = some (o, .inr (3, fs))) : ∃ cell : Cell, H[o]? = some cell ∧ cell.vm.isStatics = false ∧ U.vm.findClass RX1 = some cell.cls := va_recv hK hP (ci := 3) (q := (RX1, TX1, 2)) rfl he
theorem rv4 {G : GT} {U : State} {H : Heap} {w : va_W} {o q0 : Nat} {fs : List Value} (hK : va_K (gD G) vwCl (gT G) U) (hP : va_P (gD G) vwCl w H) (he : w[q0]? = some (o, .inr (4, fs))) : ∃ cell : Cell, H[o]? = some cell ∧ cell.vm.isStatics = false ∧ U.vm.findClass RX2 = some cell.cls := va_recv hK hP (ci := 4) (q := (RX2, TX2, 12)) rfl he
