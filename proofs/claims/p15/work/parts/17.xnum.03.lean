theorem lgc_gt {x y : Int64} : 0 < lg_cmp x y ↔ y.toInt < x.toInt := by
  rcases lgc_cases x y with ⟨h, e⟩ | ⟨h, e⟩ | ⟨h, e⟩
  · rw [e]; exact ⟨fun z => absurd z (by decide), fun z => absurd z (by omega)⟩
  · rw [e]; exact ⟨fun z => absurd z (by decide), fun z => absurd z (by omega)⟩
  · rw [e]; exact ⟨fun _ => h, fun _ => by decide⟩
