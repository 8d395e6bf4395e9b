/-! the reference and the class, method by method (good arguments) -/
def GO (th : Int32) (A : Int32 × SM) (B : Int32 × SX) : Prop := A = (B.1, mkM th B.2) ∧ Inv B.2
theorem rg {lo hi v : Int32} {a b : Int} (h : ¬ v < lo ∧ v ≤ hi) (ha : lo.toInt = a) (hb : hi.toInt = b) : a ≤ v.toInt ∧ v.toInt ≤ b := by
  have h1 := Int32.le_iff_toInt_le.mp h.2
  have h2 := Int32.le_iff_toInt_le.mp (Int32.not_lt.mp h.1)
  rw [ha] at h2
  rw [hb] at h1
  exact ⟨h2, h1⟩
theorem en8 {u : Int32} (h : 0 ≤ u.toInt ∧ u.toInt ≤ 7) : u = 0 ∨ u = 1 ∨ u = 2 ∨ u = 3 ∨ u = 4 ∨ u = 5 ∨ u = 6 ∨ u = 7 := by
  obtain ⟨h1, h2⟩ := h
  have e : ∀ z : Int, u.toInt = z → u = Int32.ofInt z := fun z q => by rw [← q, Int32.ofInt_toInt]
  have c : u.toInt = 0 ∨ u.toInt = 1 ∨ u.toInt = 2 ∨ u.toInt = 3 ∨ u.toInt = 4 ∨ u.toInt = 5 ∨ u.toInt = 6 ∨ u.toInt = 7 := by omega
  rcases c with c | c | c | c | c | c | c | c <;> have e2 := e _ c <;> subst e2 <;> decide
theorem en13 {u : Int32} (h : 9 ≤ u.toInt ∧ u.toInt ≤ 13) : u = 9 ∨ u = 10 ∨ u = 11 ∨ u = 12 ∨ u = 13 := by
  obtain ⟨h1, h2⟩ := h
  have e : ∀ z : Int, u.toInt = z → u = Int32.ofInt z := fun z q => by rw [← q, Int32.ofInt_toInt]
  have c : u.toInt = 9 ∨ u.toInt = 10 ∨ u.toInt = 11 ∨ u.toInt = 12 ∨ u.toInt = 13 := by omega
  rcases c with c | c | c | c | c <;> have e2 := e _ c <;> subst e2 <;> decide
theorem un8 {u : Int32} (h : 0 ≤ u.toInt ∧ u.toInt ≤ 7) : ∃ Q P : Int, (fX0_nanosOfUnit u).toInt = Q ∧ fX2_nanosOf u = fX0_nanosOfUnit u ∧ 0 < Q ∧ 0 < P ∧ P * Q = 86400000000000 := by
  rcases en8 h with rfl | rfl | rfl | rfl | rfl | rfl | rfl | rfl
  · exact ⟨1, 86400000000000, by decide +kernel, by decide +kernel, by decide, by decide, by decide⟩
  · exact ⟨1000, 86400000000, by decide +kernel, by decide +kernel, by decide, by decide, by decide⟩
  · exact ⟨1000000, 86400000, by decide +kernel, by decide +kernel, by decide, by decide, by decide⟩
  · exact ⟨1000000000, 86400, by decide +kernel, by decide +kernel, by decide, by decide, by decide⟩
  · exact ⟨60000000000, 1440, by decide +kernel, by decide +kernel, by decide, by decide, by decide⟩
  · exact ⟨3600000000000, 24, by decide +kernel, by decide +kernel, by decide, by decide, by decide⟩
  · exact ⟨43200000000000, 2, by decide +kernel, by decide +kernel, by decide, by decide, by decide⟩
  · exact ⟨86400000000000, 1, by decide +kernel, by decide +kernel, by decide, by decide, by decide⟩
theorem quo {x y : Int64} {Q : Int} (h : y.toInt = Q) (hQ : 0 < Q) : fX0_quotient x y = x / y := by
  refine if_neg (fun z => ?_)
  have := lgc_eq.mp z
  rw [h, show (0 : Int64).toInt = 0 from by decide] at this
  omega
/-- how far a walk on the line goes -/
theorem unit_pure {K P Q W : Int} (hK : -2147483648 ≤ K ∧ K ≤ 2147483648) (hQ : 0 < Q) (hP : 0 < P) (hPQ : P * Q = 86400000000000) (hW : (0 ≤ K ∧ W = K / P) ∨ (K ≤ 0 ∧ W = -((-K) / P))) :
    B64 (W * P) ∧ B64 (K - W * P) ∧ B64 ((K - W * P) * Q) ∧ (-30000000000 ≤ W ∧ W ≤ 30000000000) ∧ (-5000000000000000000 ≤ (K - W * P) * Q ∧ (K - W * P) * Q ≤ 5000000000000000000) ∧ (-30000000000 ≤ K / P ∧ K / P ≤ 30000000000) := by
  unfold B64
  rcases hW with ⟨h0, rfl⟩ | ⟨h0, rfl⟩
  · have m1 := Int.emod_add_mul_ediv K P
    have m2 := Int.emod_nonneg K (Int.ne_of_gt hP)
    have m3 := Int.emod_lt_of_pos K hP
    have m4 : K / P * P = P * (K / P) := Int.mul_comm _ _
    have b0 : 0 ≤ P * (K / P) := Int.mul_nonneg (Int.le_of_lt hP) (Int.ediv_nonneg h0 (Int.le_of_lt hP))
    have b1 : 0 ≤ K % P * Q := Int.mul_nonneg m2 (Int.le_of_lt hQ)
    have b2 : K % P * Q < 86400000000000 := by rw [← hPQ]; exact Int.mul_lt_mul_of_pos_right m3 hQ
    have b3 : K / P ≤ K := Int.ediv_le_self _ h0
    have b4 : 0 ≤ K / P := Int.ediv_nonneg h0 (Int.le_of_lt hP)
    have z4 : K - K / P * P = K % P := by omega
    rw [z4, m4]
    refine ⟨?_, ?_, ?_, ?_, ?_, ?_⟩ <;> omega
  · obtain ⟨M, rfl⟩ : ∃ M : Int, K = -M := ⟨-K, by omega⟩
    rw [Int.neg_neg]
    have h1 : 0 ≤ M := by omega
    have m1 := Int.emod_add_mul_ediv M P
    have m2 := Int.emod_nonneg M (Int.ne_of_gt hP)
    have m3 := Int.emod_lt_of_pos M hP
    have m4 : -(M / P) * P = -(P * (M / P)) := by rw [Int.neg_mul, Int.mul_comm]
    have b0 : 0 ≤ P * (M / P) := Int.mul_nonneg (Int.le_of_lt hP) (Int.ediv_nonneg h1 (Int.le_of_lt hP))
    have b1 : 0 ≤ M % P * Q := Int.mul_nonneg m2 (Int.le_of_lt hQ)
    have b2 : M % P * Q < 86400000000000 := by rw [← hPQ]; exact Int.mul_lt_mul_of_pos_right m3 hQ
    have b3 : M / P ≤ M := Int.ediv_le_self _ h1
    have b4 : 0 ≤ M / P := Int.ediv_nonneg h1 (Int.le_of_lt hP)
    have z4 : -M - -(M / P) * P = -(M % P) := by omega
    have z5 : -(M % P) * Q = -(M % P * Q) := Int.neg_mul _ _
    have b5 : -(M / P) - 1 ≤ (-M) / P ∧ (-M) / P ≤ -(M / P) := by
      have ed := edn (n := M) hP
      by_cases q : M % P = 0
      · rw [(ed.1 q).1]; omega
      · rw [(ed.2 q).1]; omega
    rw [z4, z5, m4]
    refine ⟨?_, ?_, ?_, ?_, ?_, ?_⟩ <;> omega
theorem unit_line {S : SX} {th : Int32} (hI : Inv S) {i : Int32} {k s : Int64} {K P Q : Int} (hi : vp_in i 6) (hk : k.toInt = K) (hs : s.toInt = Q) (hQ : 0 < Q) (hP : 0 < P) (hPQ : P * Q = 86400000000000) (hK : -2147483648 ≤ K ∧ K ≤ 2147483648) :
    GO th (gX2_onLine (mkM th S) i k s) (gX0_goLine S i (k / ((86400000000000 : Int64) / s)) ((k - (k / ((86400000000000 : Int64) / s)) * ((86400000000000 : Int64) / s)) * s)) := by
  have q1 : ((86400000000000 : Int64) / s).toInt = P := by
    rw [dL lDAY hs (by decide) hQ, ← hPQ, Int.mul_ediv_cancel _ (Int.ne_of_gt hQ)]
  have hK5 : -5000000000000000000 ≤ K ∧ K ≤ 5000000000000000000 := by omega
  rcases Int.le_total 0 K with h0 | h0
  · obtain ⟨b1, b2, b3, b4, b5, b6⟩ := unit_pure hK hQ hP hPQ (Or.inl ⟨h0, rfl⟩)
    have w := dL hk q1 h0 hP
    exact line_eq hI hi hk hs hQ hP hPQ hK5 w (mL (sL hk (mL w q1 b1) b2) hs b3) b4 b5 b6
  · obtain ⟨b1, b2, b3, b4, b5, b6⟩ := unit_pure hK hQ hP hPQ (Or.inr ⟨h0, rfl⟩)
    have w := dLn hk q1 h0 hP
    exact line_eq hI hi hk hs hQ hP hPQ hK5 w (mL (sL hk (mL w q1 b1) b2) hs b3) b4 b5 b6
theorem goUnits_eq {S : SX} {th : Int32} (hI : Inv S) {i u : Int32} {k : Int64} {K : Int} (hi : vp_in i 6) (hu : 0 ≤ u.toInt ∧ u.toInt ≤ 7) (hk : k.toInt = K) (hK : -2147483648 ≤ K ∧ K ≤ 2147483648) : GO th (gX2_onLine (mkM th S) i k (fX2_nanosOf u)) (gX0_goUnits S i k u) := by
  obtain ⟨Q, P, u1, u2, u3, u4, u5⟩ := un8 hu
  have q1 : ((86400000000000 : Int64) / fX0_nanosOfUnit u).toInt = P := by
    rw [dL lDAY u1 (by decide) u3, ← u5, Int.mul_ediv_cancel _ (Int.ne_of_gt u3)]
  have h8 : ¬ u = 8 := fun z => by rw [z, show (8 : Int32).toInt = 8 from by decide] at hu; omega
  have e : gX0_goUnits S i k u = gX0_goLine S i (k / ((86400000000000 : Int64) / fX0_nanosOfUnit u)) ((k - (k / ((86400000000000 : Int64) / fX0_nanosOfUnit u)) * ((86400000000000 : Int64) / fX0_nanosOfUnit u)) * fX0_nanosOfUnit u) := by
    have e0 : gX0_goUnits S i k u = _ := (if_neg h8).trans peta
    rw [e0, quo u1 u3, quo q1 u4]
  rw [e, u2]
  exact unit_line hI hi hk u1 u3 u4 u5 hK
theorem week_line {S : SX} {th : Int32} (hI : Inv S) {i : Int32} {k w : Int64} {K : Int} (hi : vp_in i 6) (hk : k.toInt = K) (hw : w.toInt = K) (hK : -20000000000 ≤ K ∧ K ≤ 20000000000) : GO th (gX2_onLine (mkM th S) i k (86400000000000 : Int64)) (gX0_goLine S i w (0 : Int64)) := by
  have z : (K - K * 1) * 86400000000000 = 0 := by rw [Int.mul_one, Int.sub_self, Int.zero_mul]
  exact line_eq hI hi hk lDAY (by decide) (show (0 : Int) < 1 by decide) (by decide) (by omega) hw (by rw [z]; decide) (by omega) (by rw [z]; decide) (by rw [Int.ediv_one]; omega)
theorem weeks_eq {S : SX} {th : Int32} (hI : Inv S) {i : Int32} {k w : Int64} {K : Int} (hi : vp_in i 6) (hk : k.toInt = 7 * K) (hw : w.toInt = K) (hK : -2147483648 ≤ K ∧ K ≤ 2147483648) : GO th (gX2_onLine (mkM th S) i k (86400000000000 : Int64)) (gX0_goUnits S i w (8 : Int32)) := by
  have e : gX0_goUnits S i w (8 : Int32) = gX0_goLine S i ((7 : Int64) * w) (0 : Int64) := (if_pos rfl).trans peta
  rw [e]
  exact week_line hI hi hk (mL (show (7 : Int64).toInt = 7 from by decide) hw (by omega)) (by omega)
theorem nano_line {S : SX} {th : Int32} (hI : Inv S) {i : Int32} {k : Int64} {K : Int} (hi : vp_in i 6) (hk : k.toInt = K) (hK : -3000000000000000000 ≤ K ∧ K ≤ 3000000000000000000) : GO th (gX2_onLine (mkM th S) i k (1 : Int64)) (gX0_goLine S i (0 : Int64) k) := by
  have z : (K - 0 * 86400000000000) * 1 = K := by rw [Int.zero_mul, Int.sub_zero, Int.mul_one]
  exact line_eq hI hi hk (show (1 : Int64).toInt = 1 from by decide) (by decide) (show (0 : Int) < 86400000000000 by decide) (by decide) (by omega) (show (0 : Int64).toInt = 0 from by decide) (by rw [z]; exact hk) (by omega) (by rw [z]; omega) (by omega)
/-! the time of the day -/
theorem l3600 : (3600000000000 : Int64).toInt = 3600000000000 := by decide
theorem l60 : (60000000000 : Int64).toInt = 60000000000 := by decide
theorem l1e9 : (1000000000 : Int64).toInt = 1000000000 := by decide
theorem hour_int {N : Int64} (h : TV N) : (fX0_hourOf N).toInt = N.toInt / 3600000000000 := by
  unfold TV at h
  exact oI (dL (x := N) rfl l3600 h.1 (by decide)) (by omega)
theorem minute_int {N : Int64} (h : TV N) : (fX0_minuteOf N).toInt = N.toInt % 3600000000000 / 60000000000 := by
  unfold TV at h
  exact oI (dL (rL (x := N) rfl l3600 h.1 (by decide)) l60 (by omega) (by decide)) (by omega)
theorem second_int {N : Int64} (h : TV N) : (fX0_secondOf N).toInt = N.toInt % 60000000000 / 1000000000 := by
  unfold TV at h
  exact oI (dL (rL (x := N) rfl l60 h.1 (by decide)) l1e9 (by omega) (by decide)) (by omega)
theorem nano_int {N : Int64} (h : TV N) : (fX0_nanoOfSecond N).toInt = N.toInt % 1000000000 := by
  unfold TV at h
  exact oI (rL (x := N) rfl l1e9 h.1 (by decide)) (by omega)
theorem part_int {N p q : Int64} {P Q : Int} (h : TV N) (hp : p.toInt = P) (hq : q.toInt = Q) (h1 : 0 < P) (h2 : 0 < Q) (h3 : Q ≤ 2000000000) : (((N / p) - (N / p) / q * q).toInt32).toInt = N.toInt / P % Q := by
  unfold TV at h
  have z : 0 ≤ N.toInt / P := Int.ediv_nonneg h.1 (Int.le_of_lt h1)
  have z1 := Int.emod_nonneg (N.toInt / P) (Int.ne_of_gt h2)
  have z2 := Int.emod_lt_of_pos (N.toInt / P) h2
  exact oI (rL (dL (x := N) rfl hp h.1 h1) hq z h2) (by omega)
theorem hour_eq {N : Int64} (h : TV N) : (((N / (3600000000000 : Int64)) - (N / (3600000000000 : Int64)) / (24 : Int64) * (24 : Int64)).toInt32) = fX0_hourOf N := by
  refine eqI (part_int h l3600 (show (24 : Int64).toInt = 24 from by decide) (by decide) (by decide) (by decide)) ?_
  rw [hour_int h]
  unfold TV at h
  omega
theorem minute_eq {N : Int64} (h : TV N) : (((N / (60000000000 : Int64)) - (N / (60000000000 : Int64)) / (60 : Int64) * (60 : Int64)).toInt32) = fX0_minuteOf N := by
  refine eqI (part_int h l60 (show (60 : Int64).toInt = 60 from by decide) (by decide) (by decide) (by decide)) ?_
  rw [minute_int h]
  omega
theorem second_eq {N : Int64} (h : TV N) : (((N / (1000000000 : Int64)) - (N / (1000000000 : Int64)) / (60 : Int64) * (60 : Int64)).toInt32) = fX0_secondOf N := by
  refine eqI (part_int h l1e9 (show (60 : Int64).toInt = 60 from by decide) (by decide) (by decide) (by decide)) ?_
  rw [second_int h]
  omega
theorem nano_eq {N : Int64} (h : TV N) : (((N / (1 : Int64)) - (N / (1 : Int64)) / (1000000000 : Int64) * (1000000000 : Int64)).toInt32) = fX0_nanoOfSecond N := by
  refine eqI (part_int h (show (1 : Int64).toInt = 1 from by decide) l1e9 (by decide) (by decide) (by decide)) ?_
  rw [nano_int h, Int.ediv_one]
theorem sod_eq {N : Int64} (h : TV N) : (((N / (1000000000 : Int64)) - (N / (1000000000 : Int64)) / (86400 : Int64) * (86400 : Int64)).toInt32) = (N / (1000000000 : Int64)).toInt32 := by
  refine eqI (part_int h l1e9 (show (86400 : Int64).toInt = 86400 from by decide) (by decide) (by decide) (by decide)) ?_
  unfold TV at h
  rw [oI (dL (x := N) rfl l1e9 h.1 (by decide)) (by omega)]
  omega
theorem wh_eq {N : Int64} {q : Int32} (h : TV N) (hp : 0 ≤ q.toInt ∧ q.toInt ≤ 23) : (((N / ((3600000000000 : Int64) * (24 : Int64))) * ((3600000000000 : Int64) * (24 : Int64))) + (q.toInt64 * (3600000000000 : Int64))) + (N - N / (3600000000000 : Int64) * (3600000000000 : Int64)) = N + (((q - (fX0_hourOf N)).toInt64) * (3600000000000 : Int64)) ∧ TV (N + (((q - (fX0_hourOf N)).toInt64) * (3600000000000 : Int64))) := by
  have hh := hour_int h
  unfold TV at h
  have lm : ((3600000000000 : Int64) * (24 : Int64)).toInt = 86400000000000 := by decide
  have e1 := aL (aL (mL (dL (x := N) rfl lm h.1 (by decide)) lm (by omega)) (mL (oL (x := q) rfl) l3600 (by omega)) (by omega)) (rL (x := N) rfl l3600 h.1 (by decide)) (by omega)
  have e2 := aL (x := N) rfl (mL (oL (sI (x := q) rfl hh (by omega))) l3600 (by omega)) (by omega)
  refine ⟨eqL e1 (e2.trans (by omega)), ?_⟩
  unfold TV
  rw [e2]
  omega
theorem wm_eq {N : Int64} {q : Int32} (h : TV N) (hp : 0 ≤ q.toInt ∧ q.toInt ≤ 59) : (((N / ((60000000000 : Int64) * (60 : Int64))) * ((60000000000 : Int64) * (60 : Int64))) + (q.toInt64 * (60000000000 : Int64))) + (N - N / (60000000000 : Int64) * (60000000000 : Int64)) = N + (((q - (fX0_minuteOf N)).toInt64) * (60000000000 : Int64)) ∧ TV (N + (((q - (fX0_minuteOf N)).toInt64) * (60000000000 : Int64))) := by
  have hh := minute_int h
  unfold TV at h
  have lm : ((60000000000 : Int64) * (60 : Int64)).toInt = 3600000000000 := by decide
  have e1 := aL (aL (mL (dL (x := N) rfl lm h.1 (by decide)) lm (by omega)) (mL (oL (x := q) rfl) l60 (by omega)) (by omega)) (rL (x := N) rfl l60 h.1 (by decide)) (by omega)
  have e2 := aL (x := N) rfl (mL (oL (sI (x := q) rfl hh (by omega))) l60 (by omega)) (by omega)
  refine ⟨eqL e1 (e2.trans (by omega)), ?_⟩
  unfold TV
  rw [e2]
  omega
theorem ws_eq {N : Int64} {q : Int32} (h : TV N) (hp : 0 ≤ q.toInt ∧ q.toInt ≤ 59) : (((N / ((1000000000 : Int64) * (60 : Int64))) * ((1000000000 : Int64) * (60 : Int64))) + (q.toInt64 * (1000000000 : Int64))) + (N - N / (1000000000 : Int64) * (1000000000 : Int64)) = N + (((q - (fX0_secondOf N)).toInt64) * (1000000000 : Int64)) ∧ TV (N + (((q - (fX0_secondOf N)).toInt64) * (1000000000 : Int64))) := by
  have hh := second_int h
  unfold TV at h
  have lm : ((1000000000 : Int64) * (60 : Int64)).toInt = 60000000000 := by decide
  have e1 := aL (aL (mL (dL (x := N) rfl lm h.1 (by decide)) lm (by omega)) (mL (oL (x := q) rfl) l1e9 (by omega)) (by omega)) (rL (x := N) rfl l1e9 h.1 (by decide)) (by omega)
  have e2 := aL (x := N) rfl (mL (oL (sI (x := q) rfl hh (by omega))) l1e9 (by omega)) (by omega)
  refine ⟨eqL e1 (e2.trans (by omega)), ?_⟩
  unfold TV
  rw [e2]
  omega
theorem wn_eq {N : Int64} {q : Int32} (h : TV N) (hp : 0 ≤ q.toInt ∧ q.toInt ≤ 999999999) : (((N / ((1 : Int64) * (1000000000 : Int64))) * ((1 : Int64) * (1000000000 : Int64))) + (q.toInt64 * (1 : Int64))) + (N - N / (1 : Int64) * (1 : Int64)) = (N + q.toInt64) - ((fX0_nanoOfSecond N).toInt64) ∧ TV ((N + q.toInt64) - ((fX0_nanoOfSecond N).toInt64)) := by
  have hh := nano_int h
  unfold TV at h
  have l1 : (1 : Int64).toInt = 1 := by decide
  have lm : ((1 : Int64) * (1000000000 : Int64)).toInt = 1000000000 := by decide
  have e1 := aL (aL (mL (dL (x := N) rfl lm h.1 (by decide)) lm (by omega)) (mL (oL (x := q) rfl) l1 (by omega)) (by omega)) (rL (x := N) rfl l1 h.1 (by decide)) (by omega)
  have e2 := sL (aL (x := N) rfl (oL (x := q) rfl) (by omega)) (oL hh) (by omega)
  refine ⟨eqL e1 (e2.trans (by omega)), ?_⟩
  unfold TV
  rw [e2]
  omega
theorem cut_int {N : Int64} {u : Int32} {Q : Int} (h : TV N) (u1 : (fX0_nanosOfUnit u).toInt = Q) (u3 : 0 < Q) : (fX0_cutNano N u).toInt = N.toInt / Q * Q ∧ 0 ≤ N.toInt / Q * Q ∧ N.toInt / Q * Q ≤ N.toInt := by
  unfold TV at h
  have b0 : 0 ≤ N.toInt / Q * Q := Int.mul_nonneg (Int.ediv_nonneg h.1 (Int.le_of_lt u3)) (Int.le_of_lt u3)
  have b1 : N.toInt / Q * Q ≤ N.toInt := Int.ediv_mul_le _ (Int.ne_of_gt u3)
  refine ⟨?_, b0, b1⟩
  unfold fX0_cutNano
  rw [quo u1 u3]
  exact mL (dL (x := N) rfl u1 h.1 u3) u1 (by omega)
theorem trunc_eq {N : Int64} {u : Int32} (h : TV N) (hu : 0 ≤ u.toInt ∧ u.toInt ≤ 7) : N - (N - N / fX2_nanosOf u * fX2_nanosOf u) = fX0_cutNano N u ∧ TV (fX0_cutNano N u) := by
  obtain ⟨Q, P, u1, u2, u3, u4, u5⟩ := un8 hu
  obtain ⟨c1, c2, c3⟩ := cut_int h u1 u3
  have m1 := Int.emod_add_mul_ediv N.toInt Q
  have m4 : N.toInt / Q * Q = Q * (N.toInt / Q) := Int.mul_comm _ _
  have m2 := Int.emod_nonneg N.toInt (Int.ne_of_gt u3)
  unfold TV at h ⊢
  rw [u2]
  refine ⟨eqL (sL (x := N) rfl (rL (x := N) rfl u1 h.1 u3) (by omega)) (c1.trans (by omega)), ?_⟩
  rw [c1]
  omega
/-! hands, order, gaps -/
theorem l0I : (0 : Int32).toInt = 0 := by decide
theorem timeOf_int {h m s n : Int32} (a1 : 0 ≤ h.toInt ∧ h.toInt ≤ 23) (a2 : 0 ≤ m.toInt ∧ m.toInt ≤ 59) (a3 : 0 ≤ s.toInt ∧ s.toInt ≤ 59) (a4 : 0 ≤ n.toInt ∧ n.toInt ≤ 999999999) : (fX0_timeOf h m s n).toInt = h.toInt * 3600000000000 + m.toInt * 60000000000 + s.toInt * 1000000000 + n.toInt :=
  aL (aL (aL (mL (oL (x := h) rfl) l3600 (by omega)) (mL (oL (x := m) rfl) l60 (by omega)) (by omega)) (mL (oL (x := s) rfl) l1e9 (by omega)) (by omega)) (oL (x := n) rfl) (by omega)
theorem timeOf_TV {h m s n : Int32} (a1 : 0 ≤ h.toInt ∧ h.toInt ≤ 23) (a2 : 0 ≤ m.toInt ∧ m.toInt ≤ 59) (a3 : 0 ≤ s.toInt ∧ s.toInt ≤ 59) (a4 : 0 ≤ n.toInt ∧ n.toInt ≤ 999999999) : TV (fX0_timeOf h m s n) := by
  unfold TV
  rw [timeOf_int a1 a2 a3 a4]
  omega
theorem hb_int {h m : Int32} (a1 : 0 ≤ h.toInt ∧ h.toInt ≤ 23) (a2 : 0 ≤ m.toInt ∧ m.toInt ≤ 59) : (((60 : Int64) * ((((60 : Int32) * h) + m).toInt64)) * (1000000000 : Int64)).toInt = 60 * (60 * h.toInt + m.toInt) * 1000000000 :=
  mL (mL (show (60 : Int64).toInt = 60 from by decide) (oL (aI (mI (show (60 : Int32).toInt = 60 from by decide) (show h.toInt = h.toInt from rfl) (by omega)) (show m.toInt = m.toInt from rfl) (by omega))) (by omega)) l1e9 (by omega)
theorem ht0 {h m : Int32} (a1 : 0 ≤ h.toInt ∧ h.toInt ≤ 23) (a2 : 0 ≤ m.toInt ∧ m.toInt ≤ 59) : (((60 : Int64) * ((((60 : Int32) * h) + m).toInt64)) * (1000000000 : Int64)) = fX0_timeOf h m 0 0 := by
  refine eqL (hb_int a1 a2) ?_
  rw [timeOf_int a1 a2 (by rw [l0I]; decide) (by rw [l0I]; decide), l0I]
  omega
theorem ht1 {h m s : Int32} (a1 : 0 ≤ h.toInt ∧ h.toInt ≤ 23) (a2 : 0 ≤ m.toInt ∧ m.toInt ≤ 59) (a3 : 0 ≤ s.toInt ∧ s.toInt ≤ 59) : ((((60 : Int64) * ((((60 : Int32) * h) + m).toInt64)) * (1000000000 : Int64)) + (s.toInt64 * (1000000000 : Int64))) = fX0_timeOf h m s 0 := by
  refine eqL (aL (hb_int a1 a2) (mL (oL (x := s) rfl) l1e9 (by omega)) (by omega)) ?_
  rw [timeOf_int a1 a2 a3 (by rw [l0I]; decide), l0I]
  omega
theorem ht2 {h m s n : Int32} (a1 : 0 ≤ h.toInt ∧ h.toInt ≤ 23) (a2 : 0 ≤ m.toInt ∧ m.toInt ≤ 59) (a3 : 0 ≤ s.toInt ∧ s.toInt ≤ 59) (a4 : 0 ≤ n.toInt ∧ n.toInt ≤ 999999999) : (((((60 : Int64) * ((((60 : Int32) * h) + m).toInt64)) * (1000000000 : Int64)) + (s.toInt64 * (1000000000 : Int64))) + n.toInt64) = fX0_timeOf h m s n := by
  refine eqL (aL (aL (hb_int a1 a2) (mL (oL (x := s) rfl) l1e9 (by omega)) (by omega)) (oL (x := n) rfl) (by omega)) ?_
  rw [timeOf_int a1 a2 a3 a4]
  omega
theorem hand0 {S : SX} {th u q : Int32} (hI : Inv S) (h6 : ¬ u = 6) (h1 : (u - u / (3 : Int32) * (3 : Int32)) < (1 : Int32)) (h2 : (u - u / (3 : Int32) * (3 : Int32)) < (2 : Int32)) (g1 : q ≤ 0) (g2 : q ≤ (1 : Int32)) : fX2_handTime (mkM th S) q = fX0_handTime S u ∧ TV (fX0_handTime S u) := by
  have e : fX0_handTime S u = fX0_timeOf (xi S 0) (xi S 1) (0 : Int32) (0 : Int32) := (if_neg h6).trans ((if_pos h1).trans (if_pos h2))
  have e2 : fX2_handTime (mkM th S) q = _ := (if_pos g1).trans (if_pos g2)
  rw [e, e2]
  exact ⟨ht0 hI.2.1 hI.2.2.1, timeOf_TV hI.2.1 hI.2.2.1 (by rw [l0I]; decide) (by rw [l0I]; decide)⟩
theorem hand1 {S : SX} {th u q : Int32} (hI : Inv S) (h6 : ¬ u = 6) (h1 : ¬ (u - u / (3 : Int32) * (3 : Int32)) < (1 : Int32)) (h2 : (u - u / (3 : Int32) * (3 : Int32)) < (2 : Int32)) (g1 : ¬ q ≤ 0) (g2 : q ≤ (1 : Int32)) : fX2_handTime (mkM th S) q = fX0_handTime S u ∧ TV (fX0_handTime S u) := by
  have e : fX0_handTime S u = fX0_timeOf (xi S 0) (xi S 1) (xi S 2) (0 : Int32) := (if_neg h6).trans ((if_neg h1).trans (if_pos h2))
  have e2 : fX2_handTime (mkM th S) q = _ := (if_neg g1).trans (if_pos g2)
  rw [e, e2]
  exact ⟨ht1 hI.2.1 hI.2.2.1 hI.2.2.2.1, timeOf_TV hI.2.1 hI.2.2.1 hI.2.2.2.1 (by rw [l0I]; decide)⟩
theorem hand2 {S : SX} {th u q : Int32} (hI : Inv S) (h6 : u = 6 ∨ ¬ u = 6 ∧ ¬ (u - u / (3 : Int32) * (3 : Int32)) < (1 : Int32) ∧ ¬ (u - u / (3 : Int32) * (3 : Int32)) < (2 : Int32)) (g1 : ¬ q ≤ 0) (g2 : ¬ q ≤ (1 : Int32)) : fX2_handTime (mkM th S) q = fX0_handTime S u ∧ TV (fX0_handTime S u) := by
  have e : fX0_handTime S u = fX0_timeOf (xi S 0) (xi S 1) (xi S 2) (xi S 3) := by
    rcases h6 with h | ⟨h, h1, h2⟩
    · exact if_pos h
    · exact (if_neg h).trans ((if_neg h1).trans (if_neg h2))
  have e2 : fX2_handTime (mkM th S) q = _ := (if_neg g1).trans (if_neg g2)
  rw [e, e2]
  exact ⟨ht2 hI.2.1 hI.2.2.1 hI.2.2.2.1 hI.2.2.2.2, timeOf_TV hI.2.1 hI.2.2.1 hI.2.2.2.1 hI.2.2.2.2⟩
/-- the moment's time out of the hands, class and reference -/
theorem hand_go {S : SX} {th u : Int32} (hI : Inv S) (hu : 0 ≤ u.toInt ∧ u.toInt ≤ 6) : (u = 6 → fX2_handTime (mkM th S) (2 : Int32) = fX0_handTime S u) ∧ (¬ u = 6 → fX2_handTime (mkM th S) (u - u / (3 : Int32) * (3 : Int32)) = fX0_handTime S u) ∧ TV (fX0_handTime S u) := by
  by_cases h6 : u = 6
  · have k := hand2 (th := th) (q := 2) hI (Or.inl h6) (by decide) (by decide)
    exact ⟨fun _ => k.1, fun z => absurd h6 z, k.2⟩
  have key : fX2_handTime (mkM th S) (u - u / (3 : Int32) * (3 : Int32)) = fX0_handTime S u ∧ TV (fX0_handTime S u) := by
    rcases en8 (u := u) ⟨hu.1, by omega⟩ with rfl | rfl | rfl | rfl | rfl | rfl | rfl | rfl
    · exact hand0 hI (by decide) (by decide) (by decide) (by decide) (by decide)
    · exact hand1 hI (by decide) (by decide) (by decide) (by decide) (by decide)
    · exact hand2 hI (Or.inr ⟨by decide, by decide, by decide⟩) (by decide) (by decide)
    · exact hand0 hI (by decide) (by decide) (by decide) (by decide) (by decide)
    · exact hand1 hI (by decide) (by decide) (by decide) (by decide) (by decide)
    · exact hand2 hI (Or.inr ⟨by decide, by decide, by decide⟩) (by decide) (by decide)
    · exact absurd rfl h6
    · exact hand1 hI (by decide) (by decide) (by decide) (by decide) (by decide)
  exact ⟨fun z => absurd z h6, fun _ => key.1, key.2⟩
theorem lgc_sub {x y : Int64} (h : B64 (x.toInt - y.toInt)) : lg_cmp (x - y) (0 : Int64) = lg_cmp x y := by
  have e := sL (x := x) (y := y) rfl rfl h
  have z : (0 : Int64).toInt = 0 := by decide
  rcases lgc_cases x y with ⟨a, b⟩ | ⟨a, b⟩ | ⟨a, b⟩ <;> rcases lgc_cases (x - y) 0 with ⟨c, d⟩ | ⟨c, d⟩ | ⟨c, d⟩ <;> rw [e, z] at c <;> first | (rw [b, d]; done) | (exfalso; omega)
theorem ord_pure (u v : Int32) (hu : u = -1 ∨ u = 0 ∨ u = 1) (hv : v = -1 ∨ v = 0 ∨ v = 1) : (if u = 0 then (if 0 ≤ v then (if v ≤ 0 then (0 : Int32) else (1 : Int32)) else (-1 : Int32)) else if 0 ≤ u then (if u ≤ 0 then (0 : Int32) else (1 : Int32)) else (-1 : Int32)) = (if u = 0 then (if v = 0 then (0 : Int32) else if 0 ≤ v then (1 : Int32) else (-1 : Int32)) else if 0 ≤ u then (1 : Int32) else (-1 : Int32)) := by
  rcases hu with rfl | rfl | rfl <;> rcases hv with rfl | rfl | rfl <;> decide
theorem lgc_3 (x y : Int64) : lg_cmp x y = -1 ∨ lg_cmp x y = 0 ∨ lg_cmp x y = 1 := by
  rcases lgc_cases x y with ⟨a, b⟩ | ⟨a, b⟩ | ⟨a, b⟩
  · exact Or.inl b
  · exact Or.inr (Or.inl b)
  · exact Or.inr (Or.inr b)
theorem order_eq {S : SX} {th : Int32} (hI : Inv S) {i j : Int32} (hi : vp_in i 6) (hj : vp_in j 6) : fX2_order (mkM th S) i j = fX0_order S i j := by
  have a1 := hI.Drng hi
  have a2 := hI.Drng hj
  have b1 := hI.N hi
  have b2 := hI.N hj
  unfold TV at b1 b2
  have e1 : lg_cmp (fX2_dayNow (mkM th S) i - fX2_dayNow (mkM th S) j) (0 : Int64) = lg_cmp (xD S i.toNatClampNeg) (xD S j.toNatClampNeg) := by
    rw [dayNow_eq hI hi, dayNow_eq hI hj]
    exact lgc_sub (by unfold B64; omega)
  have e2 : lg_cmp ((mt (mkM th S) i.toNatClampNeg) - (mt (mkM th S) j.toNatClampNeg)) (0 : Int64) = lg_cmp (xN S i.toNatClampNeg) (xN S j.toNatClampNeg) := lgc_sub (x := xN S i.toNatClampNeg) (y := xN S j.toNatClampNeg) (by unfold B64; omega)
  unfold fX2_order fX0_order
  rw [e1, e2]
  exact ord_pure _ _ (lgc_3 _ _) (lgc_3 _ _)
theorem same_pure (u v : Int32) (hu : u = -1 ∨ u = 0 ∨ u = 1) (hv : v = -1 ∨ v = 0 ∨ v = 1) : (if (if u = 0 then (if v = 0 then (0 : Int32) else if 0 ≤ v then (1 : Int32) else (-1 : Int32)) else if 0 ≤ u then (1 : Int32) else (-1 : Int32)) = 0 then (1 : Int32) else (0 : Int32)) = (if u = 0 then (if v = 0 then (1 : Int32) else (0 : Int32)) else (0 : Int32)) := by
  rcases hu with rfl | rfl | rfl <;> rcases hv with rfl | rfl | rfl <;> decide
theorem same_eq {S : SX} {i j : Int32} : (if fX0_order S i j = 0 then (1 : Int32) else (0 : Int32)) = fX0_isSameLine S i j := by
  unfold fX0_order fX0_isSameLine
  exact same_pure _ _ (lgc_3 _ _) (lgc_3 _ _)
theorem abs_sub {x y : Int64} (h : -10000000 < x.toInt ∧ x.toInt < 10000000) (g : -10000000 < y.toInt ∧ y.toInt < 10000000) : fJ9_abs_067f4 (x - y) = fJ9_abs_067f4 (y - x) := by
  have z : (0 : Int64).toInt = 0 := by decide
  have e1 := sL (x := x) (y := y) rfl rfl (by omega)
  have e2 := sL (x := y) (y := x) rfl rfl (by omega)
  unfold fJ9_abs_067f4
  by_cases c1 : x.toInt = y.toInt
  · have : x = y := Int64.toInt_inj.mp c1
    rw [this]
  by_cases c : y.toInt ≤ x.toInt
  · rw [if_pos (lgc_ge.mpr (by rw [e1, z]; omega)), if_neg (fun q => absurd (lgc_ge.mp q) (by rw [e2, z]; omega))]
    exact eqL e1 ((gL e2 (by omega)).trans (by omega))
  · rw [if_neg (fun q => absurd (lgc_ge.mp q) (by rw [e1, z]; omega)), if_pos (lgc_ge.mpr (by rw [e2, z]; omega))]
    exact eqL ((gL e1 (by omega)).trans (by omega)) e2
/-- a gap told or refused -/
theorem gap_eq {S : SX} {th : Int32} (hI : Inv S) {i j u : Int32} (hi : vp_in i 6) (hj : vp_in j 6) : gX2_betweenNow (mkM th S) i j u = mkM th (gX0_gapText S i j u) ∧ Inv (gX0_gapText S i j u) := by
  have eT3 : ∀ T : SM, (if 0 < (fX2_order T i j) then T else T) = T := fun T => ite_self _
  have eS : (if (9 : Int32) ≤ u then S else S) = S := ite_self _
  have hR : Inv (gX0_refuse S).2 := (refuse_eq (th := th) hI).2
  unfold gX2_betweenNow gX0_gapText fX0_isGapRefused
  rw [eT3, dayNow_eq hI hi, dayNow_eq hI hj, abs_sub (by have := hI.Drng hi; omega) (by have := hI.Drng hj; omega), eS]
  by_cases c0 : u = 0
  · have c8 : u ≤ (8 : Int32) := by rw [c0]; decide
    rw [if_pos c0, if_pos c0]
    by_cases c1 : (lg_cmp (fJ9_abs_067f4 ((xD S j.toNatClampNeg) - (xD S i.toNatClampNeg))) (100000 : Int64)) ≤ 0
    · rw [if_pos c1, if_pos rfl, if_pos rfl]
      exact ⟨rfl, hI⟩
    · rw [if_neg c1, if_neg (by decide), if_neg (by decide)]
      exact ⟨rfl, hR⟩
  · rw [if_neg c0, if_neg c0]
    by_cases c8 : u ≤ (8 : Int32)
    · have c9 : u < (9 : Int32) := by
        have := Int32.le_iff_toInt_le.mp c8
        rw [show (8 : Int32).toInt = 8 from by decide] at this
        refine Int32.lt_iff_toInt_lt.mpr ?_
        rw [show (9 : Int32).toInt = 9 from by decide]
        omega
      rw [if_pos c8, if_pos c9, if_pos rfl]
      exact ⟨rfl, hI⟩
    · have c9 : ¬ u < (9 : Int32) := by
        intro z
        have := Int32.lt_iff_toInt_lt.mp z
        rw [show (9 : Int32).toInt = 9 from by decide] at this
        exact c8 (Int32.le_iff_toInt_le.mpr (by rw [show (8 : Int32).toInt = 8 from by decide]; omega))
      rw [if_neg c8, if_neg c9]
      by_cases c28 : (28 : Int32) < (xd S i.toNatClampNeg)
      · rw [if_pos c28, if_pos (show (28 : Int32) < (md (mkM th S) i.toNatClampNeg) from c28), if_neg (by decide)]
        exact ⟨rfl, hR⟩
      · rw [if_neg c28, if_neg (show ¬ (28 : Int32) < (md (mkM th S) i.toNatClampNeg) from c28)]
        by_cases d28 : (xd S j.toNatClampNeg) ≤ (28 : Int32)
        · rw [if_pos d28, if_pos (show (md (mkM th S) j.toNatClampNeg) ≤ (28 : Int32) from d28), if_pos rfl]
          exact ⟨rfl, hI⟩
        · rw [if_neg d28, if_neg (show ¬ (md (mkM th S) j.toNatClampNeg) ≤ (28 : Int32) from d28), if_neg (by decide)]
          exact ⟨rfl, hR⟩
/-! what the methods' table wants -/
theorem GO.of {th : Int32} {A A' : Int32 × SM} {B : Int32 × SX} (e : A = A') (h : GO th A' B) : GO th A B := by rw [e]; exact h
theorem fin_W {A : Int32 × SM} {B : Int32 × SX} (g : GO 0 A B) : Rel B.2 A.2 ∧ (fX2_thrown A.2 = 0 ∧ ((0 : Int32) = 0 → B.1.toInt64 = (A.1).toInt64)) := by
  obtain ⟨e, i⟩ := g
  rw [e]
  exact ⟨⟨⟨0, rfl⟩, i⟩, rfl, fun _ => rfl⟩
theorem ite_both {α : Type} {b : Prop} [Decidable b] {x y z : α} (h1 : x = z) (h2 : y = z) : (if b then x else y) = z := by
  by_cases h : b
  · rw [if_pos h]; exact h1
  · rw [if_neg h]; exact h2
theorem wkn_eq {S : SX} {th : Int32} (hI : Inv S) {i : Int32} (hi : vp_in i 6) : fX2_weekDayNow (mkM th S) i = fX0_weekday (xD S i.toNatClampNeg) := by
  unfold fX2_weekDayNow
  rw [dayNow_eq hI hi]
  have := hI.Drng hi
  exact wk_eq (by omega)
theorem first_1 {y : Int32} (hy : YR y) : fX2_dayOf y (1 : Int32) (1 : Int32) = fX0_firstDayOf y := by
  unfold YR at hy
  have h1 : (1 : Int32).toInt = 1 := by decide
  have hm : MN (1 : Int32) := by unfold MN; rw [h1]; decide
  have ha : (fX0_daysAhead y (1 : Int32)).toInt = 0 := by
    have hl : fX0_isLeapYear y = 1 ∨ fX0_isLeapYear y = 0 := by rcases leap0 y with ⟨-, e⟩ | ⟨-, e⟩ <;> simp [e]
    rcases hl with hl | hl <;> unfold fX0_daysAhead <;> rw [hl] <;> decide
  rw [dayOf_eq (by omega) hm (by rw [h1]; decide)]
  refine eqL (dayOf_fd (by omega) hm (by rw [h1]; decide)) ?_
  rw [first_fd (by omega), ha, h1]
  omega
theorem mu_int {u : Int32} (h : 9 ≤ u.toInt ∧ u.toInt ≤ 13) : ∃ z : Int, (fX0_monthsOfUnit u).toInt = z ∧ (fX2_monthsOf u).toInt64 = fX0_monthsOfUnit u ∧ 0 ≤ z ∧ z ≤ 12000 := by
  rcases en13 h with rfl | rfl | rfl | rfl | rfl
  · exact ⟨1, by decide +kernel, by decide +kernel, by decide, by decide⟩
  · exact ⟨12, by decide +kernel, by decide +kernel, by decide, by decide⟩
  · exact ⟨120, by decide +kernel, by decide +kernel, by decide, by decide⟩
  · exact ⟨1200, by decide +kernel, by decide +kernel, by decide, by decide⟩
  · exact ⟨12000, by decide +kernel, by decide +kernel, by decide, by decide⟩
theorem mu_c {a z : Int} (h : -100000 ≤ a ∧ a ≤ 100000) (g : 0 ≤ z ∧ z ≤ 12000) : -2000000000000 ≤ a * z ∧ a * z ≤ 2000000000000 := by
  have h1 := Int.mul_le_mul_of_nonneg_right h.1 g.1
  have h2 := Int.mul_le_mul_of_nonneg_right h.2 g.1
  omega
theorem mu_b {a z : Int} (h : -100000 ≤ a ∧ a ≤ 100000) (g : 0 ≤ z ∧ z ≤ 12000) : -9223372036854775808 ≤ a * z ∧ a * z < 9223372036854775808 := by
  have := mu_c h g
  omega
/-- a moment's parts give the moment again -/
theorem parts_1 {S : SX} (hI : Inv S) {i : Int32} (hi : vp_in i 6) : fX0_isItsParts S i = 1 := by
  have hN := hI.N hi
  have r1 := hour_int hN
  have r2 := minute_int hN
  have r3 := second_int hN
  have r4 := nano_int hN
  have e1 : fX0_dayOf (xy S i.toNatClampNeg) (xm S i.toNatClampNeg) (xd S i.toNatClampNeg) = xD S i.toNatClampNeg := (hI.D hi).symm
  have e2 : fX0_timeOf (fX0_hourOf (xN S i.toNatClampNeg)) (fX0_minuteOf (xN S i.toNatClampNeg)) (fX0_secondOf (xN S i.toNatClampNeg)) (fX0_nanoOfSecond (xN S i.toNatClampNeg)) = xN S i.toNatClampNeg := by
    unfold TV at hN
    refine eqL (timeOf_int (by rw [r1]; omega) (by rw [r2]; omega) (by rw [r3]; omega) (by rw [r4]; omega)) ?_
    rw [r1, r2, r3, r4]
    omega
  unfold fX0_isItsParts
  rw [e1, e2, if_pos (lg_cmp0.mpr rfl), if_pos (lg_cmp0.mpr rfl)]
theorem date_1 {S : SX} (hI : Inv S) {i : Int32} (hi : vp_in i 6) : fX0_isItsDateAndTime S i = 1 := by
  have hN := hI.N hi
  have hv := hI.at hi
  have r4 := nano_int hN
  have hd := hv.d31
  have hy := hv.1
  unfold YR at hy
  have ha := ahead_rng (y := xy S i.toNatClampNeg) hv.2.1
  have e1 : (((fX0_firstDayOf (xy S i.toNatClampNeg)) + ((fX0_yearDay S i).toInt64)) - (1 : Int64)) = xD S i.toNatClampNeg := by
    rw [hI.D hi]
    have f1 := first_fd (y := xy S i.toNatClampNeg) (by omega)
    have f2 := aI (x := fX0_daysAhead (xy S i.toNatClampNeg) (xm S i.toNatClampNeg)) (y := xd S i.toNatClampNeg) rfl rfl (by omega)
    have f3 : -5000000 < fd (xy S i.toNatClampNeg).toInt ∧ fd (xy S i.toNatClampNeg).toInt < 5000000 := by unfold fd; omega
    refine eqL (sL (aL f1 (oL f2) (by omega)) (show (1 : Int64).toInt = 1 from by decide) (by omega)) ?_
    rw [dayOf_fd (by omega) hv.2.1 (by omega)]
    omega
  have e2 : ((((xN S i.toNatClampNeg) / (1000000000 : Int64)) * (1000000000 : Int64)) + ((fX0_nanoOfSecond (xN S i.toNatClampNeg)).toInt64)) = xN S i.toNatClampNeg := by
    unfold TV at hN
    refine eqL (aL (mL (dL (x := xN S i.toNatClampNeg) rfl l1e9 hN.1 (by decide)) l1e9 (by omega)) (oL r4) (by omega)) ?_
    omega
  unfold fX0_isItsDateAndTime
  rw [e1, e2, if_pos (lg_cmp0.mpr rfl), if_pos (lg_cmp0.mpr rfl)]
theorem sameAs_eq {S : SX} (hI : Inv S) {i u : Int32} (hi : vp_in i 6) (hu : 0 ≤ u.toInt ∧ u.toInt ≤ 4) : fX0_isSameAs S i u = (if u ≤ (2 : Int32) then (0 : Int32) else (1 : Int32)) := by
  unfold fX0_isSameAs
  rw [date_1 hI hi, parts_1 hI hi]
  rcases en8 (u := u) ⟨hu.1, by omega⟩ with rfl | rfl | rfl | rfl | rfl | rfl | rfl | rfl
  · decide
  · decide
  · decide
  · decide
  · decide
  · exact absurd hu.2 (by decide)
  · exact absurd hu.2 (by decide)
  · exact absurd hu.2 (by decide)
theorem same_01 (S : SX) (i j : Int32) : fX0_isSameLine S i j = 0 ∨ fX0_isSameLine S i j = 1 := by
  unfold fX0_isSameLine
  repeat' split
  all_goals decide
theorem ord_same {S : SX} {th : Int32} (hI : Inv S) {i j : Int32} (hi : vp_in i 6) (hj : vp_in j 6) : (if (fX2_order (mkM th S) i j) = 0 then (1 : Int32) else (0 : Int32)) = fX0_isSameLine S i j := by
  rw [order_eq hI hi hj, same_eq]
theorem v0 : vp_in (0 : Int32) 6 := by rw [vp_in_iff]; decide
theorem v1 : vp_in (1 : Int32) 6 := by rw [vp_in_iff]; decide
theorem v2 : vp_in (2 : Int32) 6 := by rw [vp_in_iff]; decide
theorem v3 : vp_in (3 : Int32) 6 := by rw [vp_in_iff]; decide
theorem v4 : vp_in (4 : Int32) 6 := by rw [vp_in_iff]; decide
theorem v5 : vp_in (5 : Int32) 6 := by rw [vp_in_iff]; decide
def bi (b : Bool) : Int32 := match b with | true => 1 | false => 0
def rF (p0 s0 s1 s2 s3 s4 s5 : Int32) : Int32 := if p0 ≤ (0 : Int32) then (0 : Int32) else if s0 = 0 then (if p0 ≤ (1 : Int32) then (0 : Int32) else if s1 = 0 then (if p0 ≤ (2 : Int32) then (0 : Int32) else if s2 = 0 then (if p0 ≤ (3 : Int32) then (0 : Int32) else if s3 = 0 then (if p0 ≤ (4 : Int32) then (0 : Int32) else if s4 = 0 then (if p0 ≤ (5 : Int32) then (0 : Int32) else if s5 = 0 then (0 : Int32) else (1 : Int32)) else (1 : Int32)) else (1 : Int32)) else (1 : Int32)) else (1 : Int32)) else (1 : Int32)
def cF (x1 x2 x3 x4 x5 : Int32) : Int32 := if x1 = 0 then (if x2 = 0 then (if x3 = 0 then (if x4 = 0 then (if x5 = 0 then (0 : Int32) else (1 : Int32)) else if x5 = 0 then (1 : Int32) else (2 : Int32)) else if x4 = 0 then (if x5 = 0 then (1 : Int32) else (2 : Int32)) else if x5 = 0 then (2 : Int32) else (3 : Int32)) else if x3 = 0 then (if x4 = 0 then (if x5 = 0 then (1 : Int32) else (2 : Int32)) else if x5 = 0 then (2 : Int32) else (3 : Int32)) else if x4 = 0 then (if x5 = 0 then (2 : Int32) else (3 : Int32)) else if x5 = 0 then (3 : Int32) else (4 : Int32)) else if x2 = 0 then (if x3 = 0 then (if x4 = 0 then (if x5 = 0 then (1 : Int32) else (2 : Int32)) else if x5 = 0 then (2 : Int32) else (3 : Int32)) else if x4 = 0 then (if x5 = 0 then (2 : Int32) else (3 : Int32)) else if x5 = 0 then (3 : Int32) else (4 : Int32)) else if x3 = 0 then (if x4 = 0 then (if x5 = 0 then (2 : Int32) else (3 : Int32)) else if x5 = 0 then (3 : Int32) else (4 : Int32)) else if x4 = 0 then (if x5 = 0 then (3 : Int32) else (4 : Int32)) else if x5 = 0 then (4 : Int32) else (5 : Int32)
theorem bi_same (S : SX) (i j : Int32) : ∃ b, fX0_isSameLine S i j = bi b := (same_01 S i j).elim (fun h => ⟨false, h⟩) (fun h => ⟨true, h⟩)
theorem rF_1 : ∀ b0 b1 b2 b3 b4 b5 : Bool, rF 1 (bi b0) (bi b1) (bi b2) (bi b3) (bi b4) (bi b5) = (if ((0 : Int32) ||| (bi b0)) = 0 then (0 : Int32) else (1 : Int32)) := by decide +kernel
theorem rep_1 (S : SX) : fX0_isRepeated S (1 : Int32) = (if ((0 : Int32) ||| (fX0_isSameLine S 1 0)) = 0 then (0 : Int32) else (1 : Int32)) := by
  obtain ⟨b0, h0⟩ := bi_same S 1 0
  obtain ⟨b1, h1⟩ := bi_same S 1 1
  obtain ⟨b2, h2⟩ := bi_same S 1 2
  obtain ⟨b3, h3⟩ := bi_same S 1 3
  obtain ⟨b4, h4⟩ := bi_same S 1 4
  obtain ⟨b5, h5⟩ := bi_same S 1 5
  have e : fX0_isRepeated S (1 : Int32) = rF 1 (fX0_isSameLine S 1 0) (fX0_isSameLine S 1 1) (fX0_isSameLine S 1 2) (fX0_isSameLine S 1 3) (fX0_isSameLine S 1 4) (fX0_isSameLine S 1 5) := rfl
  rw [e, h0, h1, h2, h3, h4, h5]
  exact rF_1 b0 b1 b2 b3 b4 b5
theorem bi_rep_1 (S : SX) : ∃ b, fX0_isRepeated S (1 : Int32) = bi b := by
  rw [rep_1]
  split
  · exact ⟨false, rfl⟩
  · exact ⟨true, rfl⟩
theorem rF_2 : ∀ b0 b1 b2 b3 b4 b5 : Bool, rF 2 (bi b0) (bi b1) (bi b2) (bi b3) (bi b4) (bi b5) = (if (((0 : Int32) ||| (bi b0)) ||| (bi b1)) = 0 then (0 : Int32) else (1 : Int32)) := by decide +kernel
theorem rep_2 (S : SX) : fX0_isRepeated S (2 : Int32) = (if (((0 : Int32) ||| (fX0_isSameLine S 2 0)) ||| (fX0_isSameLine S 2 1)) = 0 then (0 : Int32) else (1 : Int32)) := by
  obtain ⟨b0, h0⟩ := bi_same S 2 0
  obtain ⟨b1, h1⟩ := bi_same S 2 1
  obtain ⟨b2, h2⟩ := bi_same S 2 2
  obtain ⟨b3, h3⟩ := bi_same S 2 3
  obtain ⟨b4, h4⟩ := bi_same S 2 4
  obtain ⟨b5, h5⟩ := bi_same S 2 5
  have e : fX0_isRepeated S (2 : Int32) = rF 2 (fX0_isSameLine S 2 0) (fX0_isSameLine S 2 1) (fX0_isSameLine S 2 2) (fX0_isSameLine S 2 3) (fX0_isSameLine S 2 4) (fX0_isSameLine S 2 5) := rfl
  rw [e, h0, h1, h2, h3, h4, h5]
  exact rF_2 b0 b1 b2 b3 b4 b5
theorem bi_rep_2 (S : SX) : ∃ b, fX0_isRepeated S (2 : Int32) = bi b := by
  rw [rep_2]
  split
  · exact ⟨false, rfl⟩
  · exact ⟨true, rfl⟩
theorem rF_3 : ∀ b0 b1 b2 b3 b4 b5 : Bool, rF 3 (bi b0) (bi b1) (bi b2) (bi b3) (bi b4) (bi b5) = (if ((((0 : Int32) ||| (bi b0)) ||| (bi b1)) ||| (bi b2)) = 0 then (0 : Int32) else (1 : Int32)) := by decide +kernel
theorem rep_3 (S : SX) : fX0_isRepeated S (3 : Int32) = (if ((((0 : Int32) ||| (fX0_isSameLine S 3 0)) ||| (fX0_isSameLine S 3 1)) ||| (fX0_isSameLine S 3 2)) = 0 then (0 : Int32) else (1 : Int32)) := by
  obtain ⟨b0, h0⟩ := bi_same S 3 0
  obtain ⟨b1, h1⟩ := bi_same S 3 1
  obtain ⟨b2, h2⟩ := bi_same S 3 2
  obtain ⟨b3, h3⟩ := bi_same S 3 3
  obtain ⟨b4, h4⟩ := bi_same S 3 4
  obtain ⟨b5, h5⟩ := bi_same S 3 5
  have e : fX0_isRepeated S (3 : Int32) = rF 3 (fX0_isSameLine S 3 0) (fX0_isSameLine S 3 1) (fX0_isSameLine S 3 2) (fX0_isSameLine S 3 3) (fX0_isSameLine S 3 4) (fX0_isSameLine S 3 5) := rfl
  rw [e, h0, h1, h2, h3, h4, h5]
  exact rF_3 b0 b1 b2 b3 b4 b5
theorem bi_rep_3 (S : SX) : ∃ b, fX0_isRepeated S (3 : Int32) = bi b := by
  rw [rep_3]
  split
  · exact ⟨false, rfl⟩
  · exact ⟨true, rfl⟩
theorem rF_4 : ∀ b0 b1 b2 b3 b4 b5 : Bool, rF 4 (bi b0) (bi b1) (bi b2) (bi b3) (bi b4) (bi b5) = (if (((((0 : Int32) ||| (bi b0)) ||| (bi b1)) ||| (bi b2)) ||| (bi b3)) = 0 then (0 : Int32) else (1 : Int32)) := by decide +kernel
theorem rep_4 (S : SX) : fX0_isRepeated S (4 : Int32) = (if (((((0 : Int32) ||| (fX0_isSameLine S 4 0)) ||| (fX0_isSameLine S 4 1)) ||| (fX0_isSameLine S 4 2)) ||| (fX0_isSameLine S 4 3)) = 0 then (0 : Int32) else (1 : Int32)) := by
  obtain ⟨b0, h0⟩ := bi_same S 4 0
  obtain ⟨b1, h1⟩ := bi_same S 4 1
  obtain ⟨b2, h2⟩ := bi_same S 4 2
  obtain ⟨b3, h3⟩ := bi_same S 4 3
  obtain ⟨b4, h4⟩ := bi_same S 4 4
  obtain ⟨b5, h5⟩ := bi_same S 4 5
  have e : fX0_isRepeated S (4 : Int32) = rF 4 (fX0_isSameLine S 4 0) (fX0_isSameLine S 4 1) (fX0_isSameLine S 4 2) (fX0_isSameLine S 4 3) (fX0_isSameLine S 4 4) (fX0_isSameLine S 4 5) := rfl
  rw [e, h0, h1, h2, h3, h4, h5]
  exact rF_4 b0 b1 b2 b3 b4 b5
theorem bi_rep_4 (S : SX) : ∃ b, fX0_isRepeated S (4 : Int32) = bi b := by
  rw [rep_4]
  split
  · exact ⟨false, rfl⟩
  · exact ⟨true, rfl⟩
theorem rF_5 : ∀ b0 b1 b2 b3 b4 b5 : Bool, rF 5 (bi b0) (bi b1) (bi b2) (bi b3) (bi b4) (bi b5) = (if ((((((0 : Int32) ||| (bi b0)) ||| (bi b1)) ||| (bi b2)) ||| (bi b3)) ||| (bi b4)) = 0 then (0 : Int32) else (1 : Int32)) := by decide +kernel
theorem rep_5 (S : SX) : fX0_isRepeated S (5 : Int32) = (if ((((((0 : Int32) ||| (fX0_isSameLine S 5 0)) ||| (fX0_isSameLine S 5 1)) ||| (fX0_isSameLine S 5 2)) ||| (fX0_isSameLine S 5 3)) ||| (fX0_isSameLine S 5 4)) = 0 then (0 : Int32) else (1 : Int32)) := by
  obtain ⟨b0, h0⟩ := bi_same S 5 0
  obtain ⟨b1, h1⟩ := bi_same S 5 1
  obtain ⟨b2, h2⟩ := bi_same S 5 2
  obtain ⟨b3, h3⟩ := bi_same S 5 3
  obtain ⟨b4, h4⟩ := bi_same S 5 4
  obtain ⟨b5, h5⟩ := bi_same S 5 5
  have e : fX0_isRepeated S (5 : Int32) = rF 5 (fX0_isSameLine S 5 0) (fX0_isSameLine S 5 1) (fX0_isSameLine S 5 2) (fX0_isSameLine S 5 3) (fX0_isSameLine S 5 4) (fX0_isSameLine S 5 5) := rfl
  rw [e, h0, h1, h2, h3, h4, h5]
  exact rF_5 b0 b1 b2 b3 b4 b5
theorem bi_rep_5 (S : SX) : ∃ b, fX0_isRepeated S (5 : Int32) = bi b := by
  rw [rep_5]
  split
  · exact ⟨false, rfl⟩
  · exact ⟨true, rfl⟩
theorem cF_num : ∀ b1 b2 b3 b4 b5 : Bool, ((((((0 : Int32) + (bi b1)) + (bi b2)) + (bi b3)) + (bi b4)) + (bi b5)) = cF (bi b1) (bi b2) (bi b3) (bi b4) (bi b5) := by decide +kernel
theorem count_sum (S : SX) : ((((((0 : Int32) + (fX0_isRepeated S 1)) + (fX0_isRepeated S 2)) + (fX0_isRepeated S 3)) + (fX0_isRepeated S 4)) + (fX0_isRepeated S 5)) = fX0_countRepeated S := by
  obtain ⟨b1, h1⟩ := bi_rep_1 S
  obtain ⟨b2, h2⟩ := bi_rep_2 S
  obtain ⟨b3, h3⟩ := bi_rep_3 S
  obtain ⟨b4, h4⟩ := bi_rep_4 S
  obtain ⟨b5, h5⟩ := bi_rep_5 S
  have e : fX0_countRepeated S = cF (fX0_isRepeated S 1) (fX0_isRepeated S 2) (fX0_isRepeated S 3) (fX0_isRepeated S 4) (fX0_isRepeated S 5) := rfl
  rw [e, h1, h2, h3, h4, h5]
  exact cF_num b1 b2 b3 b4 b5
theorem like_eq {S : SX} {th : Int32} (hI : Inv S) : fX2_likeOnes (mkM th S) = fX0_countRepeated S := by
  unfold fX2_likeOnes
  simp only [ord_same hI v1 v0, ord_same hI v2 v0, ord_same hI v2 v1, ord_same hI v3 v0, ord_same hI v3 v1, ord_same hI v3 v2, ord_same hI v4 v0, ord_same hI v4 v1, ord_same hI v4 v2, ord_same hI v4 v3, ord_same hI v5 v0, ord_same hI v5 v1, ord_same hI v5 v2, ord_same hI v5 v3, ord_same hI v5 v4]
  rw [← rep_1, ← rep_2, ← rep_3, ← rep_4, ← rep_5]
  exact count_sum S
theorem outer_eq {S : SX} {th : Int32} (hI : Inv S) (q : Int32) : fX2_outer (mkM th S) q = fX0_outermost S q := by
  unfold fX2_outer fX0_outermost
  simp only [order_eq (th := th) hI v1 v0, order_eq (th := th) hI v2 v0, order_eq (th := th) hI v2 v1, order_eq (th := th) hI v3 v0, order_eq (th := th) hI v3 v1, order_eq (th := th) hI v3 v2, order_eq (th := th) hI v4 v0, order_eq (th := th) hI v4 v1, order_eq (th := th) hI v4 v2, order_eq (th := th) hI v4 v3, order_eq (th := th) hI v5 v0, order_eq (th := th) hI v5 v1, order_eq (th := th) hI v5 v2, order_eq (th := th) hI v5 v3, order_eq (th := th) hI v5 v4]
theorem house_eq {S : SX} {th : Int32} (hI : Inv S) {q : Int32} : fX2_houseNow (mkM th S) q = fX0_house S q := by
  unfold fX2_houseNow fX0_house fX0_houseNumber
  rw [like_eq hI, outer_eq hI, outer_eq hI]
  rfl
theorem rel_knock {S : SX} {T : SM} (hR : Rel S T) : Rel (gX0_knock S).2 (gX2_knock T).2 := by
  obtain ⟨⟨th, rfl⟩, hI⟩ := hR
  exact ⟨⟨0, rfl⟩, hI⟩
theorem cmp_knock {S : SX} {T : SM} (hR : Rel S T) : (gX0_knock S).1 = (gX2_knock T).1 := by
  obtain ⟨⟨th, rfl⟩, hI⟩ := hR
  rfl
theorem rel_isSound {S : SX} {T : SM} (hR : Rel S T) : Rel S (gX2_isSound T).2 := by
  obtain ⟨⟨th, rfl⟩, hI⟩ := hR
  exact ⟨⟨0, rfl⟩, hI⟩
