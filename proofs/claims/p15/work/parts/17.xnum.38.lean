def dMb : Nat → Int64 → Int32 → Int32 → Bool
  | 0, _, _, _ => false
  | n + 1, r, y, m => if lg_cmp r (fX2_daysOf y m).toInt64 < 0 then true else dMb n (r - (fX2_daysOf y m).toInt64) y (m + 1)
theorem dMb_ok : ∀ (n : Nat) (r : Int64) (y m : Int32), dMb n r y m = true → dMok n r y m := by
  intro n
  induction n with
  | zero => intro r y m h; exact (Bool.false_ne_true h).elim
  | succ n ih =>
    intro r y m h hc
    have e : dMb (n + 1) r y m = dMb n (r - (fX2_daysOf y m).toInt64) y (m + 1) := if_neg hc
    rw [e] at h
    exact ih _ _ _ h
