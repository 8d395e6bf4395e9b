/-! what letters a text holds: t tells them, k of them, the array's row f -/
def TX (t : Nat → Int32) (k : Nat) (f : Nat → Int32) : Prop := sb_Fit f ∧ ∀ j : Nat, j < k → f j = t j
theorem TX.rf {f : Nat → Int32} {k : Nat} (h : sb_Fit f) : TX f k f := ⟨h, fun _ _ => rfl⟩
theorem TX.no {t f : Nat → Int32} (h : sb_Fit f) : TX t 0 f := ⟨h, fun j hj => absurd hj (Nat.not_lt_zero j)⟩
theorem TX.tr {t f g : Nat → Int32} {k n : Nat} (h : TX t k f) (hk : k ≤ n) (h2 : TX f n g) : TX t k g := ⟨h2.1, fun j hj => (h2.2 j (by omega)).trans (h.2 j hj)⟩
theorem TX.cg {t t2 f : Nat → Int32} {k : Nat} (h : TX t k f) (e : ∀ j : Nat, j < k → t j = t2 j) : TX t2 k f := ⟨h.1, fun j hj => (h.2 j hj).trans (e j hj)⟩
theorem TX.app {t f g : Nat → Int32} {k n : Nat} {c : Int32} (h : TX t k f) (hk : k ≤ n) (h2 : TX f n g) (hk9 : k < 34) (hc : fits .byte (.int c) = true) : TX (upd t k c) (k + 1) (upd g (nI k).toNatClampNeg c) := by
  rw [nI_clamp (by omega)]
  refine ⟨sb_fitU h2.1 hc, fun j hj => ?_⟩
  show (if j = k then c else g j) = (if j = k then c else t j)
  by_cases e : j = k
  · rw [if_pos e, if_pos e]
  · rw [if_neg e, if_neg e]
    exact (h.tr hk h2).2 j (by omega)
theorem TX.up {t f : Nat → Int32} {k : Nat} {c : Int32} (h : TX (upd t k c) (k + 1) f) (e : c = t k) : TX t (k + 1) f := h.cg (fun j _ => by
  show (if j = k then c else t j) = t j
  by_cases q : j = k
  · rw [if_pos q, q, e]
  · rw [if_neg q])
theorem cpI {f g : Nat → Int32} {a b c : Int32} {n j : Nat} (ha : a.toNatClampNeg = 0) (hb : b.toNatClampNeg = 0) (hc : c.toNatClampNeg = n) (h : j < n) : va_cpy f g a.toNatClampNeg b.toNatClampNeg c.toNatClampNeg j = f j := by
  rw [ha, hb, hc]
  exact sb_cpy0 h
theorem nar_id {x : Int32} (h : fits .byte (.int x) = true) : vp_nar .byte x = x := by
  have h1 : (-128 : Int32).toInt = -128 := by decide
  have h2 : (127 : Int32).toInt = 127 := by decide
  simp only [fits, Bool.and_eq_true, decide_eq_true_eq, Int32.le_iff_toInt_le, h1, h2] at h
  rw [vp_nar_byte]
  refine Int32.toInt_inj.mp ?_
  rw [Int8.toInt_toInt32, Int32.toInt_toInt8]
  exact Int.bmod_eq_of_le (by omega) (by omega)
/-- the digit of n at the place j, from behind -/
def dg (n j : Nat) : Int32 := nI (48 + n / 10 ^ j % 10)
/-- n's k digits, behind d signs -/
def tT (n k d i : Nat) : Int32 := if i < d then 45 else dg n (k + d - 1 - i)
theorem nar_d : ∀ j : Nat, j < 10 → vp_nar .byte (nI (48 + j)) = nI (48 + j) := by decide +kernel
theorem nar_1 (r : Nat) : vp_nar .byte (tD1 r) = nI (48 + r % 10) := nar_d _ (Nat.mod_lt _ (by decide))
theorem nar_10 {r : Nat} (h : r < 100) : vp_nar .byte (tD10 r) = nI (48 + r / 10) := nar_d _ (by omega)
theorem nar_45 : vp_nar .byte (45 : Int32) = 45 := by decide
theorem nar_45b : vp_nar .byte ((45 : Int32).toInt8.toInt32) = 45 := by decide
theorem ch_d : ∀ j : Nat, j < 10 → vp_nar .byte ((((nI (48 + j)).toUInt32 % 65536).toInt32).toInt8.toInt32) = nI (48 + j) := by decide +kernel
theorem ch_val {v : Int64} {j : Nat} (hj : j < 10) (h : v.toInt = 48 + (j : Int)) : vp_nar .byte ((((v.toInt32).toUInt32 % 65536).toInt32).toInt8.toInt32) = nI (48 + j) := by
  have e : v.toInt32 = nI (48 + j) := by
    refine Int32.toInt_inj.mp ?_
    rw [Int64.toInt_toInt32, h, nI_toInt (by omega), fb_bmod (by omega) (by omega)]
    omega
  rw [e]
  exact ch_d j hj
theorem pow_sub {K k : Nat} (hk : 1 ≤ k) (h : k ≤ K) : 10 ^ (K - 1) = 10 ^ (k - 1) * 10 ^ (K - k) := by
  rw [← Nat.pow_add]
  congr 1
  omega
theorem pw_pos (n : Nat) : 0 < 10 ^ n := Nat.pow_pos (by decide)
/-- getChars has laid the digits behind the first k of K; w is what is left of N -/
def GC (N K d k w : Nat) (f : Nat → Int32) : Prop := k ≤ K ∧ w = N / 10 ^ (K - k) ∧ ∀ i : Nat, k + d ≤ i → i < K + d → f i = dg N (K + d - 1 - i)
theorem GC.start {N K d k w : Nat} {f : Nat → Int32} (hK : k = K) (hN : w = N) : GC N K d k w f := by
  subst hK; subst hN
  exact ⟨Nat.le_refl _, by rw [Nat.sub_self, Nat.pow_zero, Nat.div_one], fun i h1 h2 => absurd h1 (by omega)⟩
theorem GC.two {N K d k w : Nat} {f : Nat → Int32} (h : GC N K d k w f) (hk : 2 ≤ k) (hkd : k + d < 35) : GC N K d (k - 2) (w / 100) (upd (upd f (nI ((k + d) - 1)).toNatClampNeg (vp_nar .byte (tD1 (w % 100)))) (nI (((k + d) - 1) - 1)).toNatClampNeg (vp_nar .byte (tD10 (w % 100)))) := by
  obtain ⟨h1, h2, h3⟩ := h
  rw [nI_clamp (by omega), nI_clamp (by omega), nar_1, nar_10 (Nat.mod_lt _ (by decide))]
  have hp1 : 10 ^ (K - k + 1) = 10 ^ (K - k) * 10 := Nat.pow_succ _ _
  have hp2 : 10 ^ (K - (k - 2)) = 10 ^ (K - k) * 100 := by
    rw [show K - (k - 2) = (K - k) + 2 by omega, Nat.pow_add]
  refine ⟨by omega, ?_, fun i i1 i2 => ?_⟩
  · rw [hp2, ← Nat.div_div_eq_div_mul, ← h2]
  · show (if i = (k + d) - 1 - 1 then nI (48 + w % 100 / 10) else if i = (k + d) - 1 then nI (48 + w % 100 % 10) else f i) = _
    by_cases e : i = (k + d) - 1 - 1
    · rw [if_pos e]
      unfold dg
      rw [show K + d - 1 - i = K - k + 1 by omega, hp1, ← Nat.div_div_eq_div_mul, ← h2]
      congr 2
      omega
    · rw [if_neg e]
      by_cases e2 : i = (k + d) - 1
      · rw [if_pos e2]
        unfold dg
        rw [show K + d - 1 - i = K - k by omega, ← h2]
        congr 2
        omega
      · rw [if_neg e2]
        exact h3 i (by omega) i2
theorem GC.one {N K d k w : Nat} {f : Nat → Int32} (h : GC N K d k w f) (hk : 1 ≤ k) (hkd : k + d < 35) : GC N K d (k - 1) (w / 10) (upd f (nI ((k + d) - 1)).toNatClampNeg (vp_nar .byte (tD1 w))) := by
  obtain ⟨h1, h2, h3⟩ := h
  rw [nI_clamp (by omega), nar_1]
  have hp1 : 10 ^ (K - (k - 1)) = 10 ^ (K - k) * 10 := by
    rw [show K - (k - 1) = (K - k) + 1 by omega, Nat.pow_succ]
  refine ⟨by omega, ?_, fun i i1 i2 => ?_⟩
  · rw [hp1, ← Nat.div_div_eq_div_mul, ← h2]
  · show (if i = (k + d) - 1 then nI (48 + w % 10) else f i) = _
    by_cases e2 : i = (k + d) - 1
    · rw [if_pos e2]
      unfold dg
      rw [show K + d - 1 - i = K - k by omega, ← h2]
    · rw [if_neg e2]
      exact h3 i (by omega) i2
theorem GC.k {N K d k w b : Nat} {f : Nat → Int32} (h : GC N K d k w f) (hK : K = 1 ∨ 10 ^ (K - 1) ≤ N) (hk : 1 ≤ k) (hb : 1 ≤ b) (hw : w < 10 ^ b) : k ≤ b := by
  obtain ⟨h1, h2, -⟩ := h
  rcases Nat.lt_or_ge b k with q | q
  · rcases hK with z | z
    · omega
    · rw [pow_sub hk h1] at z
      have z2 := (Nat.le_div_iff_mul_le (pw_pos (K - k))).mpr z
      rw [← h2] at z2
      have z3 := Nat.pow_le_pow_right (n := 10) (by decide) (show b ≤ k - 1 by omega)
      omega
  · exact q
theorem GC.end0 {N K w : Nat} {f : Nat → Int32} (h : GC N K 0 0 w f) (hf : sb_Fit f) : TX (tT N K 0) (K + 0) f := ⟨hf, fun j hj => (h.2.2 j (by omega) hj).trans (if_neg (Nat.not_lt_zero j)).symm⟩
theorem GC.end1 {N K w : Nat} {f : Nat → Int32} {c : Int32} (h : GC N K 1 0 w f) (hf : sb_Fit f) (hc : c = 45) : TX (tT N K 1) (K + 1) (upd f 0 c) := by
  subst hc
  refine ⟨sb_fitU hf (by decide), fun j hj => ?_⟩
  show (if j = 0 then (45 : Int32) else f j) = (if j < 1 then (45 : Int32) else dg N (K + 1 - 1 - j))
  by_cases e : j = 0
  · rw [if_pos e, if_pos (by omega)]
  · rw [if_neg e, if_neg (by omega)]
    exact h.2.2 j (by omega) hj
theorem gz1 {y : Int64} (h2 : y.toInt ≤ 0) : ((((y / (100 : Int64)) * (100 : Int64)) - y).toInt32).toNatClampNeg = (-y.toInt).toNat % 100 ∧ (-(y / (100 : Int64)).toInt).toNat = (-y.toInt).toNat / 100 := by
  have hr := fb_rngL y
  have e0 : (100 : Int64).toInt = 100 := by decide
  have e1 : (y / (100 : Int64)).toInt = -((-y.toInt) / 100) := by
    rw [Int64.toInt_div_of_ne_right _ _ (by decide), e0, tdivN h2]
  have e2 : ((y / (100 : Int64)) * (100 : Int64)).toInt = -((-y.toInt) / 100) * 100 := by
    rw [fb_mulL (by rw [e1, e0]; omega) (by rw [e1, e0]; omega), e1, e0]
  have e3 : (((y / (100 : Int64)) * (100 : Int64)) - y).toInt = -((-y.toInt) / 100) * 100 - y.toInt := by
    rw [fb_subL (by rw [e2]; omega) (by rw [e2]; omega), e2]
  refine ⟨?_, by rw [e1]; omega⟩
  show ((((y / (100 : Int64)) * (100 : Int64)) - y).toInt32).toInt.toNat = _
  rw [Int64.toInt_toInt32, e3, fb_bmod (by omega) (by omega)]
  omega
theorem gz2 {y : Int32} (h2 : y.toInt ≤ 0) : (((y / (100 : Int32)) * (100 : Int32)) - y).toNatClampNeg = (-y.toInt).toNat % 100 ∧ (-(y / (100 : Int32)).toInt).toNat = (-y.toInt).toNat / 100 := by
  have hr := fb_rng y
  have e0 : (100 : Int32).toInt = 100 := by decide
  have e1 : (y / (100 : Int32)).toInt = -((-y.toInt) / 100) := by
    rw [Int32.toInt_div_of_ne_right _ _ (by decide), e0, tdivN h2]
  have e2 : ((y / (100 : Int32)) * (100 : Int32)).toInt = -((-y.toInt) / 100) * 100 := by
    rw [fb_mulI (by rw [e1, e0]; omega) (by rw [e1, e0]; omega), e1, e0]
  refine ⟨?_, by rw [e1]; omega⟩
  show (((y / (100 : Int32)) * (100 : Int32)) - y).toInt.toNat = _
  rw [fb_subI (by rw [e2]; omega) (by rw [e2]; omega), e2]
  omega
theorem gz3 {y : Int32} (h2 : y.toInt ≤ 0) (hc : (-100 : Int32) < y) : (-y).toNatClampNeg = (-y.toInt).toNat ∧ (-y.toInt).toNat < 100 := by
  rw [Int32.lt_iff_toInt_lt, show (-100 : Int32).toInt = -100 from by decide] at hc
  refine ⟨?_, by omega⟩
  show (-y).toInt.toNat = _
  rw [fb_negI (by omega)]
theorem gcs1 {N K d k : Nat} {y : Int64} {f : Nat → Int32} (h : GC N K d k (-y.toInt).toNat f) (hk : 3 ≤ k) (h2 : y.toInt ≤ 0) (hkd : k + d < 35) : GC N K d (k - 2) (-(y / (100 : Int64)).toInt).toNat (upd (upd f (nI ((k + d) - 1)).toNatClampNeg (vp_nar .byte (tD1 ((((y / (100 : Int64)) * (100 : Int64)) - y).toInt32).toNatClampNeg))) (nI (((k + d) - 1) - 1)).toNatClampNeg (vp_nar .byte (tD10 ((((y / (100 : Int64)) * (100 : Int64)) - y).toInt32).toNatClampNeg))) := by
  obtain ⟨a, b⟩ := gz1 h2
  rw [a, b]
  exact h.two (by omega) hkd
theorem gcs2 {N K d k : Nat} {y : Int32} {f : Nat → Int32} (h : GC N K d k (-y.toInt).toNat f) (hk : 3 ≤ k) (h2 : y.toInt ≤ 0) (hkd : k + d < 35) : GC N K d (k - 2) (-(y / (100 : Int32)).toInt).toNat (upd (upd f (nI ((k + d) - 1)).toNatClampNeg (vp_nar .byte (tD1 (((y / (100 : Int32)) * (100 : Int32)) - y).toNatClampNeg))) (nI (((k + d) - 1) - 1)).toNatClampNeg (vp_nar .byte (tD10 (((y / (100 : Int32)) * (100 : Int32)) - y).toNatClampNeg))) := by
  obtain ⟨a, b⟩ := gz2 h2
  rw [a, b]
  exact h.two (by omega) hkd
theorem gc9 {y : Int32} (hc : (-9 : Int32) ≤ y) : (-y.toInt).toNat < 10 ^ 1 := by
  rw [Int32.le_iff_toInt_le, show (-9 : Int32).toInt = -9 from by decide] at hc
  show _ < 10
  omega
/-- the end: one digit is left, or two; with the sign or without -/
theorem gcf_p1 {N K k : Nat} {y : Int32} {f : Nat → Int32} (h : GC N K 0 k (-y.toInt).toNat f) (hK : K = 1 ∨ 10 ^ (K - 1) ≤ N) (hk : 1 ≤ k) (h2 : y.toInt ≤ 0) (hc : (-100 : Int32) < y) (hb : (-9 : Int32) ≤ y) (hf : sb_Fit f) : TX (tT N K 0) (K + 0) (upd f (nI ((k + 0) - 1)).toNatClampNeg (vp_nar .byte (tD1 (-y).toNatClampNeg))) := by
  have e := h.k hK hk (Nat.le_refl 1) (gc9 hb)
  obtain rfl : k = 1 := by omega
  rw [(gz3 h2 hc).1]
  exact (h.one (by decide) (by decide)).end0 (sb_fitU hf (fit_nar _))
theorem gcf_n1 {N K k : Nat} {y : Int32} {f : Nat → Int32} (h : GC N K 1 k (-y.toInt).toNat f) (hK : K = 1 ∨ 10 ^ (K - 1) ≤ N) (hk : 1 ≤ k) (h2 : y.toInt ≤ 0) (hc : (-100 : Int32) < y) (hb : (-9 : Int32) ≤ y) (hf : sb_Fit f) : TX (tT N K 1) (K + 1) (upd (upd f (nI ((k + 1) - 1)).toNatClampNeg (vp_nar .byte (tD1 (-y).toNatClampNeg))) (nI (((k + 1) - 1) - 1)).toNatClampNeg (vp_nar .byte (45 : Int32))) := by
  have e := h.k hK hk (Nat.le_refl 1) (gc9 hb)
  obtain rfl : k = 1 := by omega
  rw [(gz3 h2 hc).1]
  rw [show (nI (((1 + 1) - 1) - 1)).toNatClampNeg = 0 from by decide]
  exact (h.one (by decide) (by decide)).end1 (sb_fitU hf (fit_nar _)) nar_45
theorem gcf_p2 {N K k : Nat} {y : Int32} {f : Nat → Int32} (h : GC N K 0 k (-y.toInt).toNat f) (hK : K = 1 ∨ 10 ^ (K - 1) ≤ N) (hk : 1 ≤ k) (h1 : (-y.toInt).toNat < 10 ^ k) (h2 : y.toInt ≤ 0) (hc : (-100 : Int32) < y) (hb : ¬ (-9 : Int32) ≤ y) (hf : sb_Fit f) : TX (tT N K 0) (K + 0) (upd (upd f (nI ((k + 0) - 1)).toNatClampNeg (vp_nar .byte (tD1 (-y).toNatClampNeg))) (nI (((k + 0) - 1) - 1)).toNatClampNeg (vp_nar .byte (tD10 (-y).toNatClampNeg))) := by
  have z := gz3 h2 hc
  have e := h.k (b := 2) hK hk (by decide) z.2
  have e2 := gc4 h1 hb
  obtain rfl : k = 2 := by omega
  rw [z.1]
  have q := h.two (by decide) (by decide)
  rw [Nat.mod_eq_of_lt z.2] at q
  exact q.end0 (sb_fitU (sb_fitU hf (fit_nar _)) (fit_nar _))
theorem gcf_n2 {N K k : Nat} {y : Int32} {f : Nat → Int32} (h : GC N K 1 k (-y.toInt).toNat f) (hK : K = 1 ∨ 10 ^ (K - 1) ≤ N) (hk : 1 ≤ k) (h1 : (-y.toInt).toNat < 10 ^ k) (h2 : y.toInt ≤ 0) (hc : (-100 : Int32) < y) (hb : ¬ (-9 : Int32) ≤ y) (hf : sb_Fit f) : TX (tT N K 1) (K + 1) (upd (upd (upd f (nI ((k + 1) - 1)).toNatClampNeg (vp_nar .byte (tD1 (-y).toNatClampNeg))) (nI (((k + 1) - 1) - 1)).toNatClampNeg (vp_nar .byte (tD10 (-y).toNatClampNeg))) (nI ((((k + 1) - 1) - 1) - 1)).toNatClampNeg (vp_nar .byte (45 : Int32))) := by
  have z := gz3 h2 hc
  have e := h.k (b := 2) hK hk (by decide) z.2
  have e2 := gc4 h1 hb
  obtain rfl : k = 2 := by omega
  rw [z.1]
  have q := h.two (by decide) (by decide)
  rw [Nat.mod_eq_of_lt z.2] at q
  rw [show (nI ((((2 + 1) - 1) - 1) - 1)).toNatClampNeg = 0 from by decide]
  exact q.end1 (sb_fitU (sb_fitU hf (fit_nar _)) (fit_nar _)) nar_45
/-- reverse: the middle from t on isn't turned yet -/
def RV (k t : Nat) (f0 f : Nat → Int32) : Prop := ∀ i : Nat, i < k → f i = if t ≤ i ∧ i + t < k then f0 (k - 1 - i) else f0 i
theorem RV.start {k : Nat} {f : Nat → Int32} : RV k (k / 2) f f := fun i hi => by
  by_cases h : k / 2 ≤ i ∧ i + k / 2 < k
  · rw [if_pos h, show k - 1 - i = i by omega]
  · rw [if_neg h]
theorem RV.step {k t : Nat} {f0 f : Nat → Int32} (h : RV k (t + 1) f0 f) (hf : sb_Fit f) (hk9 : k < 34) (ht : t + 1 ≤ k / 2) : RV k t f0 (upd (upd f ((nI (t + 1)) - (1 : Int32)).toNatClampNeg (vp_nar .byte (f (((nI k) - (1 : Int32)) - ((nI (t + 1)) - (1 : Int32))).toNatClampNeg))) (((nI k) - (1 : Int32)) - ((nI (t + 1)) - (1 : Int32))).toNatClampNeg (vp_nar .byte (f ((nI (t + 1)) - (1 : Int32)).toNatClampNeg))) := by
  have eA : (nI (t + 1)) - (1 : Int32) = nI t := (nI_subN (b := 1) (by omega)).trans (by rw [Nat.add_sub_cancel])
  have eK : (nI k) - (1 : Int32) = nI (k - 1) := nI_subN (b := 1) (by omega)
  rw [eA, eK, nI_subN (show t ≤ k - 1 by omega), nI_clamp (show t < 2 ^ 31 by omega), nI_clamp (show k - 1 - t < 2 ^ 31 by omega), nar_id (hf _), nar_id (hf _)]
  have ha := h t (by omega)
  have hb := h (k - 1 - t) (by omega)
  rw [if_neg (by omega)] at ha hb
  intro i hi
  show (if i = k - 1 - t then f t else if i = t then f (k - 1 - t) else f i) = _
  by_cases e : i = k - 1 - t
  · rw [if_pos e, ha, if_pos (by omega)]
    congr 1
    omega
  · rw [if_neg e]
    by_cases e2 : i = t
    · rw [if_pos e2, hb, if_pos (by omega)]
      congr 1
      omega
    · rw [if_neg e2, h i hi]
      by_cases c : t ≤ i ∧ i + t < k
      · rw [if_pos c, if_pos (by omega)]
      · rw [if_neg c, if_neg (by omega)]
theorem RV.tx {k : Nat} {t f0 f : Nat → Int32} (h : RV k 0 f0 f) (h0 : TX t k f0) (hf : sb_Fit f) : TX (fun i => t (k - 1 - i)) k f := ⟨hf, fun i hi => ((h i hi).trans (if_pos (by omega))).trans (h0.2 (k - 1 - i) (by omega))⟩
/-- the world of a text of x's digits; of what a method hands back: "" (none), "!" (some none), digits -/
def STX (G : GT) (q : Nat) (x : Int64) (ws : va_W) : Prop := ∃ (u k d : Nat) (f : Nat → Int32), ws = [(q, .inr (0, [.ref u, .int 0, .int 0, .int 0])), (u, .inl (gC G 2, (k + d), .inl f))] ∧ SS x k d ∧ TX (tT x.toInt.natAbs k d) (k + d) f
def TXO (G : GT) (q : Nat) (o : Option (Option Int64)) (ws : va_W) : Prop := match o with
  | none => q = ga G 6 ∧ ws = []
  | some none => q = ga G 5 ∧ ws = []
  | some (some x) => STX G q x ws
theorem TXO.dig {G : GT} {q : Nat} {o : Option (Option Int64)} {x : Int64} {ws : va_W} (e : o = some (some x)) (h : STX G q x ws) : TXO G q o ws := by rw [e]; exact h
theorem TXO.bang {G : GT} {o : Option (Option Int64)} (e : o = some none) : TXO G (ga G 5) o [] := by rw [e]; exact ⟨rfl, rfl⟩
theorem TXO.no {G : GT} {o : Option (Option Int64)} (e : o = none) : TXO G (ga G 6) o [] := by rw [e]; exact ⟨rfl, rfl⟩
theorem TXO.cg {G : GT} {q : Nat} {o o2 : Option (Option Int64)} {ws : va_W} (h : TXO G q o ws) (e : o2 = o) : TXO G q o2 ws := by rw [e]; exact h
theorem SS.uniq {x : Int64} {k d k2 d2 : Nat} (h : SS x k d) (g : SS x k2 d2) : k = k2 ∧ d = d2 := by
  obtain ⟨a1, -, a3, a4, a5, -⟩ := h
  obtain ⟨b1, -, b3, b4, b5, -⟩ := g
  refine ⟨?_, by omega⟩
  rcases Nat.lt_trichotomy k k2 with c | c | c
  · rcases b5 with b5 | b5
    · omega
    · have := pw_lt a4 b5; omega
  · exact c
  · rcases a5 with a5 | a5
    · omega
    · have := pw_lt b4 a5; omega
