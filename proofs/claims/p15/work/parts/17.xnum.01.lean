theorem lgc_lt {x y : Int64} : lg_cmp x y < 0 ↔ x.toInt < y.toInt := by
  rcases lgc_cases x y with ⟨h, e⟩ | ⟨h, e⟩ | ⟨h, e⟩
  · rw [e]; exact ⟨fun _ => h, fun _ => by decide⟩
  · rw [e]; exact ⟨fun z => absurd z (by decide), fun z => absurd z (by omega)⟩
  · rw [e]; exact ⟨fun z => absurd z (by decide), fun z => absurd z (by omega)⟩
