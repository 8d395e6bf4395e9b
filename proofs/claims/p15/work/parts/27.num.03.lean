theorem SS.d1 {x : Int64} {k d : Nat} (h : SS x k d) : d ≤ 1 := by
  rcases h.2.2.1 with q | q <;> omega
theorem rev_j : ∀ k : Nat, k < 34 → (((nI k - (1 : Int32)) - (1 : Int32)) >>> ((1 : Int32) &&& 31)) = nI (k / 2) - 1 := by decide +kernel
theorem nI_subN {a b : Nat} (h : b ≤ a) : nI a - nI b = nI (a - b) := by
  have e : nI a = nI (a - b) + nI b := by rw [nI_add]; congr 1; omega
  rw [e, Int32.add_sub_cancel]
theorem rev_in (k : Nat) (hk : k < 34) (t : Nat) (ht : t ≤ k / 2) (h0 : ¬ t = 0) : vp_in (nI t - (1 : Int32)) k ∧ vp_in ((nI k - (1 : Int32)) - (nI t - (1 : Int32))) k := by
  have e1 : nI t - (1 : Int32) = nI (t - 1) := nI_subN (b := 1) (by omega)
  have e2 : nI k - (1 : Int32) = nI (k - 1) := nI_subN (b := 1) (by omega)
  rw [e1, e2, nI_subN (by omega)]
  exact ⟨vp_in_nI (by omega) (by omega), vp_in_nI (by omega) (by omega)⟩
theorem vin_mono {x : Int32} {a b : Nat} (h : vp_in x a) (hab : a ≤ b) : vp_in x b := by
  rw [vp_in_iff] at h ⊢
  omega
