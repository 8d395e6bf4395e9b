theorem dc_SS {x : Int64} {k d : Nat} (hs : SS x k d) : fX0_digitCount x = nI (k + d) := by
  obtain ⟨s1, s2, s3, s4, s5, -⟩ := hs
  have z0 : (0 : Int64).toInt = 0 := by decide
  have hsg : (if 0 ≤ (lg_cmp x (0 : Int64)) then (1 : Int32) else (2 : Int32)) = nI (1 + d) := by
    rcases s3 with ⟨g, rfl⟩ | ⟨g, rfl⟩
    · rw [if_neg (fun z => absurd (lgc_ge.mp z) (by rw [z0]; omega))]; rfl
    · rw [if_pos (lgc_ge.mpr (by rw [z0]; exact g))]; rfl
  have n1 := dv10 x
  have n2 := dv10 (x / (10 : Int64))
  have n3 := dv10 ((x / (10 : Int64)) / (10 : Int64))
  have n4 := dv10 (((x / (10 : Int64)) / (10 : Int64)) / (10 : Int64))
  have n5 := dv10 ((((x / (10 : Int64)) / (10 : Int64)) / (10 : Int64)) / (10 : Int64))
  have n6 := dv10 (((((x / (10 : Int64)) / (10 : Int64)) / (10 : Int64)) / (10 : Int64)) / (10 : Int64))
  have n7 := dv10 ((((((x / (10 : Int64)) / (10 : Int64)) / (10 : Int64)) / (10 : Int64)) / (10 : Int64)) / (10 : Int64))
  have n8 := dv10 (((((((x / (10 : Int64)) / (10 : Int64)) / (10 : Int64)) / (10 : Int64)) / (10 : Int64)) / (10 : Int64)) / (10 : Int64))
  have n9 := dv10 ((((((((x / (10 : Int64)) / (10 : Int64)) / (10 : Int64)) / (10 : Int64)) / (10 : Int64)) / (10 : Int64)) / (10 : Int64)) / (10 : Int64))
  have n10 := dv10 (((((((((x / (10 : Int64)) / (10 : Int64)) / (10 : Int64)) / (10 : Int64)) / (10 : Int64)) / (10 : Int64)) / (10 : Int64)) / (10 : Int64)) / (10 : Int64))
  have n11 := dv10 ((((((((((x / (10 : Int64)) / (10 : Int64)) / (10 : Int64)) / (10 : Int64)) / (10 : Int64)) / (10 : Int64)) / (10 : Int64)) / (10 : Int64)) / (10 : Int64)) / (10 : Int64))
  have n12 := dv10 (((((((((((x / (10 : Int64)) / (10 : Int64)) / (10 : Int64)) / (10 : Int64)) / (10 : Int64)) / (10 : Int64)) / (10 : Int64)) / (10 : Int64)) / (10 : Int64)) / (10 : Int64)) / (10 : Int64))
  have n13 := dv10 ((((((((((((x / (10 : Int64)) / (10 : Int64)) / (10 : Int64)) / (10 : Int64)) / (10 : Int64)) / (10 : Int64)) / (10 : Int64)) / (10 : Int64)) / (10 : Int64)) / (10 : Int64)) / (10 : Int64)) / (10 : Int64))
  have n14 := dv10 (((((((((((((x / (10 : Int64)) / (10 : Int64)) / (10 : Int64)) / (10 : Int64)) / (10 : Int64)) / (10 : Int64)) / (10 : Int64)) / (10 : Int64)) / (10 : Int64)) / (10 : Int64)) / (10 : Int64)) / (10 : Int64)) / (10 : Int64))
  have n15 := dv10 ((((((((((((((x / (10 : Int64)) / (10 : Int64)) / (10 : Int64)) / (10 : Int64)) / (10 : Int64)) / (10 : Int64)) / (10 : Int64)) / (10 : Int64)) / (10 : Int64)) / (10 : Int64)) / (10 : Int64)) / (10 : Int64)) / (10 : Int64)) / (10 : Int64))
  have n16 := dv10 (((((((((((((((x / (10 : Int64)) / (10 : Int64)) / (10 : Int64)) / (10 : Int64)) / (10 : Int64)) / (10 : Int64)) / (10 : Int64)) / (10 : Int64)) / (10 : Int64)) / (10 : Int64)) / (10 : Int64)) / (10 : Int64)) / (10 : Int64)) / (10 : Int64)) / (10 : Int64))
  have n17 := dv10 ((((((((((((((((x / (10 : Int64)) / (10 : Int64)) / (10 : Int64)) / (10 : Int64)) / (10 : Int64)) / (10 : Int64)) / (10 : Int64)) / (10 : Int64)) / (10 : Int64)) / (10 : Int64)) / (10 : Int64)) / (10 : Int64)) / (10 : Int64)) / (10 : Int64)) / (10 : Int64)) / (10 : Int64))
  have n18 := dv10 (((((((((((((((((x / (10 : Int64)) / (10 : Int64)) / (10 : Int64)) / (10 : Int64)) / (10 : Int64)) / (10 : Int64)) / (10 : Int64)) / (10 : Int64)) / (10 : Int64)) / (10 : Int64)) / (10 : Int64)) / (10 : Int64)) / (10 : Int64)) / (10 : Int64)) / (10 : Int64)) / (10 : Int64)) / (10 : Int64))
  generalize ha : x.toInt.natAbs = a at s4 s5 n1
  generalize ha1 : ((x / (10 : Int64))).toInt.natAbs = a1 at n1 n2
  generalize ha2 : (((x / (10 : Int64)) / (10 : Int64))).toInt.natAbs = a2 at n2 n3
  generalize ha3 : ((((x / (10 : Int64)) / (10 : Int64)) / (10 : Int64))).toInt.natAbs = a3 at n3 n4
  generalize ha4 : (((((x / (10 : Int64)) / (10 : Int64)) / (10 : Int64)) / (10 : Int64))).toInt.natAbs = a4 at n4 n5
  generalize ha5 : ((((((x / (10 : Int64)) / (10 : Int64)) / (10 : Int64)) / (10 : Int64)) / (10 : Int64))).toInt.natAbs = a5 at n5 n6
  generalize ha6 : (((((((x / (10 : Int64)) / (10 : Int64)) / (10 : Int64)) / (10 : Int64)) / (10 : Int64)) / (10 : Int64))).toInt.natAbs = a6 at n6 n7
  generalize ha7 : ((((((((x / (10 : Int64)) / (10 : Int64)) / (10 : Int64)) / (10 : Int64)) / (10 : Int64)) / (10 : Int64)) / (10 : Int64))).toInt.natAbs = a7 at n7 n8
  generalize ha8 : (((((((((x / (10 : Int64)) / (10 : Int64)) / (10 : Int64)) / (10 : Int64)) / (10 : Int64)) / (10 : Int64)) / (10 : Int64)) / (10 : Int64))).toInt.natAbs = a8 at n8 n9
  generalize ha9 : ((((((((((x / (10 : Int64)) / (10 : Int64)) / (10 : Int64)) / (10 : Int64)) / (10 : Int64)) / (10 : Int64)) / (10 : Int64)) / (10 : Int64)) / (10 : Int64))).toInt.natAbs = a9 at n9 n10
  generalize ha10 : (((((((((((x / (10 : Int64)) / (10 : Int64)) / (10 : Int64)) / (10 : Int64)) / (10 : Int64)) / (10 : Int64)) / (10 : Int64)) / (10 : Int64)) / (10 : Int64)) / (10 : Int64))).toInt.natAbs = a10 at n10 n11
  generalize ha11 : ((((((((((((x / (10 : Int64)) / (10 : Int64)) / (10 : Int64)) / (10 : Int64)) / (10 : Int64)) / (10 : Int64)) / (10 : Int64)) / (10 : Int64)) / (10 : Int64)) / (10 : Int64)) / (10 : Int64))).toInt.natAbs = a11 at n11 n12
  generalize ha12 : (((((((((((((x / (10 : Int64)) / (10 : Int64)) / (10 : Int64)) / (10 : Int64)) / (10 : Int64)) / (10 : Int64)) / (10 : Int64)) / (10 : Int64)) / (10 : Int64)) / (10 : Int64)) / (10 : Int64)) / (10 : Int64))).toInt.natAbs = a12 at n12 n13
  generalize ha13 : ((((((((((((((x / (10 : Int64)) / (10 : Int64)) / (10 : Int64)) / (10 : Int64)) / (10 : Int64)) / (10 : Int64)) / (10 : Int64)) / (10 : Int64)) / (10 : Int64)) / (10 : Int64)) / (10 : Int64)) / (10 : Int64)) / (10 : Int64))).toInt.natAbs = a13 at n13 n14
  generalize ha14 : (((((((((((((((x / (10 : Int64)) / (10 : Int64)) / (10 : Int64)) / (10 : Int64)) / (10 : Int64)) / (10 : Int64)) / (10 : Int64)) / (10 : Int64)) / (10 : Int64)) / (10 : Int64)) / (10 : Int64)) / (10 : Int64)) / (10 : Int64)) / (10 : Int64))).toInt.natAbs = a14 at n14 n15
  generalize ha15 : ((((((((((((((((x / (10 : Int64)) / (10 : Int64)) / (10 : Int64)) / (10 : Int64)) / (10 : Int64)) / (10 : Int64)) / (10 : Int64)) / (10 : Int64)) / (10 : Int64)) / (10 : Int64)) / (10 : Int64)) / (10 : Int64)) / (10 : Int64)) / (10 : Int64)) / (10 : Int64))).toInt.natAbs = a15 at n15 n16
  generalize ha16 : (((((((((((((((((x / (10 : Int64)) / (10 : Int64)) / (10 : Int64)) / (10 : Int64)) / (10 : Int64)) / (10 : Int64)) / (10 : Int64)) / (10 : Int64)) / (10 : Int64)) / (10 : Int64)) / (10 : Int64)) / (10 : Int64)) / (10 : Int64)) / (10 : Int64)) / (10 : Int64)) / (10 : Int64))).toInt.natAbs = a16 at n16 n17
  generalize ha17 : ((((((((((((((((((x / (10 : Int64)) / (10 : Int64)) / (10 : Int64)) / (10 : Int64)) / (10 : Int64)) / (10 : Int64)) / (10 : Int64)) / (10 : Int64)) / (10 : Int64)) / (10 : Int64)) / (10 : Int64)) / (10 : Int64)) / (10 : Int64)) / (10 : Int64)) / (10 : Int64)) / (10 : Int64)) / (10 : Int64))).toInt.natAbs = a17 at n17 n18
  generalize ha18 : (((((((((((((((((((x / (10 : Int64)) / (10 : Int64)) / (10 : Int64)) / (10 : Int64)) / (10 : Int64)) / (10 : Int64)) / (10 : Int64)) / (10 : Int64)) / (10 : Int64)) / (10 : Int64)) / (10 : Int64)) / (10 : Int64)) / (10 : Int64)) / (10 : Int64)) / (10 : Int64)) / (10 : Int64)) / (10 : Int64)) / (10 : Int64))).toInt.natAbs = a18 at n18
  by_cases c1 : (lg_cmp (x / (10 : Int64)) (0 : Int64)) = 0
  · have e1 := lgc_eq.mp c1; rw [z0] at e1; rw [e1] at ha1; have e1 : a1 = 0 := ha1.symm
    have q2 : k ≤ 1 := by
      rcases s5 with q | q
      · omega
      · have := pw_lt (n := a) (k := 1) (j := k - 1) (by show a < 10; omega) q; omega
    have ek : k = 1 := by omega
    refine Eq.trans (if_pos c1) ?_
    rw [hsg, ek]
    try rfl
  · have f1 : ¬ a1 = 0 := fun z => c1 (lgc_eq.mpr (by rw [z0]; rw [z] at ha1; exact Int.natAbs_eq_zero.mp ha1))
    by_cases c2 : (lg_cmp ((x / (10 : Int64)) / (10 : Int64)) (0 : Int64)) = 0
    · have e2 := lgc_eq.mp c2; rw [z0] at e2; rw [e2] at ha2; have e2 : a2 = 0 := ha2.symm
      have q1 : 1 < k := pw_lt (j := 1) s4 (by show 10 ≤ a; omega)
      have q2 : k ≤ 2 := by
        rcases s5 with q | q
        · omega
        · have := pw_lt (n := a) (k := 2) (j := k - 1) (by show a < 100; omega) q; omega
      have ek : k = 2 := by omega
      refine Eq.trans (Eq.trans (if_neg c1) (if_pos c2)) ?_
      rw [hsg, ek]
      rcases s3 with ⟨g, rfl⟩ | ⟨g, rfl⟩ <;> rfl
    · have f2 : ¬ a2 = 0 := fun z => c2 (lgc_eq.mpr (by rw [z0]; rw [z] at ha2; exact Int.natAbs_eq_zero.mp ha2))
      by_cases c3 : (lg_cmp (((x / (10 : Int64)) / (10 : Int64)) / (10 : Int64)) (0 : Int64)) = 0
      · have e3 := lgc_eq.mp c3; rw [z0] at e3; rw [e3] at ha3; have e3 : a3 = 0 := ha3.symm
        have q1 : 2 < k := pw_lt (j := 2) s4 (by show 100 ≤ a; omega)
        have q2 : k ≤ 3 := by
          rcases s5 with q | q
          · omega
          · have := pw_lt (n := a) (k := 3) (j := k - 1) (by show a < 1000; omega) q; omega
        have ek : k = 3 := by omega
        refine Eq.trans (Eq.trans (if_neg c1) (Eq.trans (if_neg c2) (if_pos c3))) ?_
        rw [hsg, ek]
        rcases s3 with ⟨g, rfl⟩ | ⟨g, rfl⟩ <;> rfl
      · have f3 : ¬ a3 = 0 := fun z => c3 (lgc_eq.mpr (by rw [z0]; rw [z] at ha3; exact Int.natAbs_eq_zero.mp ha3))
        by_cases c4 : (lg_cmp ((((x / (10 : Int64)) / (10 : Int64)) / (10 : Int64)) / (10 : Int64)) (0 : Int64)) = 0
        · have e4 := lgc_eq.mp c4; rw [z0] at e4; rw [e4] at ha4; have e4 : a4 = 0 := ha4.symm
          have q1 : 3 < k := pw_lt (j := 3) s4 (by show 1000 ≤ a; omega)
          have q2 : k ≤ 4 := by
            rcases s5 with q | q
            · omega
            · have := pw_lt (n := a) (k := 4) (j := k - 1) (by show a < 10000; omega) q; omega
          have ek : k = 4 := by omega
          refine Eq.trans (Eq.trans (if_neg c1) (Eq.trans (if_neg c2) (Eq.trans (if_neg c3) (if_pos c4)))) ?_
          rw [hsg, ek]
          rcases s3 with ⟨g, rfl⟩ | ⟨g, rfl⟩ <;> rfl
        · have f4 : ¬ a4 = 0 := fun z => c4 (lgc_eq.mpr (by rw [z0]; rw [z] at ha4; exact Int.natAbs_eq_zero.mp ha4))
          by_cases c5 : (lg_cmp (((((x / (10 : Int64)) / (10 : Int64)) / (10 : Int64)) / (10 : Int64)) / (10 : Int64)) (0 : Int64)) = 0
          · have e5 := lgc_eq.mp c5; rw [z0] at e5; rw [e5] at ha5; have e5 : a5 = 0 := ha5.symm
            have q1 : 4 < k := pw_lt (j := 4) s4 (by show 10000 ≤ a; omega)
            have q2 : k ≤ 5 := by
              rcases s5 with q | q
              · omega
              · have := pw_lt (n := a) (k := 5) (j := k - 1) (by show a < 100000; omega) q; omega
            have ek : k = 5 := by omega
            refine Eq.trans (Eq.trans (if_neg c1) (Eq.trans (if_neg c2) (Eq.trans (if_neg c3) (Eq.trans (if_neg c4) (if_pos c5))))) ?_
            rw [hsg, ek]
            rcases s3 with ⟨g, rfl⟩ | ⟨g, rfl⟩ <;> rfl
          · have f5 : ¬ a5 = 0 := fun z => c5 (lgc_eq.mpr (by rw [z0]; rw [z] at ha5; exact Int.natAbs_eq_zero.mp ha5))
            by_cases c6 : (lg_cmp ((((((x / (10 : Int64)) / (10 : Int64)) / (10 : Int64)) / (10 : Int64)) / (10 : Int64)) / (10 : Int64)) (0 : Int64)) = 0
            · have e6 := lgc_eq.mp c6; rw [z0] at e6; rw [e6] at ha6; have e6 : a6 = 0 := ha6.symm
              have q1 : 5 < k := pw_lt (j := 5) s4 (by show 100000 ≤ a; omega)
              have q2 : k ≤ 6 := by
                rcases s5 with q | q
                · omega
                · have := pw_lt (n := a) (k := 6) (j := k - 1) (by show a < 1000000; omega) q; omega
              have ek : k = 6 := by omega
              refine Eq.trans (Eq.trans (if_neg c1) (Eq.trans (if_neg c2) (Eq.trans (if_neg c3) (Eq.trans (if_neg c4) (Eq.trans (if_neg c5) (if_pos c6)))))) ?_
              rw [hsg, ek]
              rcases s3 with ⟨g, rfl⟩ | ⟨g, rfl⟩ <;> rfl
            · have f6 : ¬ a6 = 0 := fun z => c6 (lgc_eq.mpr (by rw [z0]; rw [z] at ha6; exact Int.natAbs_eq_zero.mp ha6))
              by_cases c7 : (lg_cmp (((((((x / (10 : Int64)) / (10 : Int64)) / (10 : Int64)) / (10 : Int64)) / (10 : Int64)) / (10 : Int64)) / (10 : Int64)) (0 : Int64)) = 0
              · have e7 := lgc_eq.mp c7; rw [z0] at e7; rw [e7] at ha7; have e7 : a7 = 0 := ha7.symm
                have q1 : 6 < k := pw_lt (j := 6) s4 (by show 1000000 ≤ a; omega)
                have q2 : k ≤ 7 := by
                  rcases s5 with q | q
                  · omega
                  · have := pw_lt (n := a) (k := 7) (j := k - 1) (by show a < 10000000; omega) q; omega
                have ek : k = 7 := by omega
                refine Eq.trans (Eq.trans (if_neg c1) (Eq.trans (if_neg c2) (Eq.trans (if_neg c3) (Eq.trans (if_neg c4) (Eq.trans (if_neg c5) (Eq.trans (if_neg c6) (if_pos c7))))))) ?_
                rw [hsg, ek]
                rcases s3 with ⟨g, rfl⟩ | ⟨g, rfl⟩ <;> rfl
              · have f7 : ¬ a7 = 0 := fun z => c7 (lgc_eq.mpr (by rw [z0]; rw [z] at ha7; exact Int.natAbs_eq_zero.mp ha7))
                by_cases c8 : (lg_cmp ((((((((x / (10 : Int64)) / (10 : Int64)) / (10 : Int64)) / (10 : Int64)) / (10 : Int64)) / (10 : Int64)) / (10 : Int64)) / (10 : Int64)) (0 : Int64)) = 0
                · have e8 := lgc_eq.mp c8; rw [z0] at e8; rw [e8] at ha8; have e8 : a8 = 0 := ha8.symm
                  have q1 : 7 < k := pw_lt (j := 7) s4 (by show 10000000 ≤ a; omega)
                  have q2 : k ≤ 8 := by
                    rcases s5 with q | q
                    · omega
                    · have := pw_lt (n := a) (k := 8) (j := k - 1) (by show a < 100000000; omega) q; omega
                  have ek : k = 8 := by omega
                  refine Eq.trans (Eq.trans (if_neg c1) (Eq.trans (if_neg c2) (Eq.trans (if_neg c3) (Eq.trans (if_neg c4) (Eq.trans (if_neg c5) (Eq.trans (if_neg c6) (Eq.trans (if_neg c7) (if_pos c8)))))))) ?_
                  rw [hsg, ek]
                  rcases s3 with ⟨g, rfl⟩ | ⟨g, rfl⟩ <;> rfl
                · have f8 : ¬ a8 = 0 := fun z => c8 (lgc_eq.mpr (by rw [z0]; rw [z] at ha8; exact Int.natAbs_eq_zero.mp ha8))
                  by_cases c9 : (lg_cmp (((((((((x / (10 : Int64)) / (10 : Int64)) / (10 : Int64)) / (10 : Int64)) / (10 : Int64)) / (10 : Int64)) / (10 : Int64)) / (10 : Int64)) / (10 : Int64)) (0 : Int64)) = 0
                  · have e9 := lgc_eq.mp c9; rw [z0] at e9; rw [e9] at ha9; have e9 : a9 = 0 := ha9.symm
                    have q1 : 8 < k := pw_lt (j := 8) s4 (by show 100000000 ≤ a; omega)
                    have q2 : k ≤ 9 := by
                      rcases s5 with q | q
                      · omega
                      · have := pw_lt (n := a) (k := 9) (j := k - 1) (by show a < 1000000000; omega) q; omega
                    have ek : k = 9 := by omega
                    refine Eq.trans (Eq.trans (if_neg c1) (Eq.trans (if_neg c2) (Eq.trans (if_neg c3) (Eq.trans (if_neg c4) (Eq.trans (if_neg c5) (Eq.trans (if_neg c6) (Eq.trans (if_neg c7) (Eq.trans (if_neg c8) (if_pos c9))))))))) ?_
                    rw [hsg, ek]
                    rcases s3 with ⟨g, rfl⟩ | ⟨g, rfl⟩ <;> rfl
                  · have f9 : ¬ a9 = 0 := fun z => c9 (lgc_eq.mpr (by rw [z0]; rw [z] at ha9; exact Int.natAbs_eq_zero.mp ha9))
                    by_cases c10 : (lg_cmp ((((((((((x / (10 : Int64)) / (10 : Int64)) / (10 : Int64)) / (10 : Int64)) / (10 : Int64)) / (10 : Int64)) / (10 : Int64)) / (10 : Int64)) / (10 : Int64)) / (10 : Int64)) (0 : Int64)) = 0
                    · have e10 := lgc_eq.mp c10; rw [z0] at e10; rw [e10] at ha10; have e10 : a10 = 0 := ha10.symm
                      have q1 : 9 < k := pw_lt (j := 9) s4 (by show 1000000000 ≤ a; omega)
                      have q2 : k ≤ 10 := by
                        rcases s5 with q | q
                        · omega
                        · have := pw_lt (n := a) (k := 10) (j := k - 1) (by show a < 10000000000; omega) q; omega
                      have ek : k = 10 := by omega
                      refine Eq.trans (Eq.trans (if_neg c1) (Eq.trans (if_neg c2) (Eq.trans (if_neg c3) (Eq.trans (if_neg c4) (Eq.trans (if_neg c5) (Eq.trans (if_neg c6) (Eq.trans (if_neg c7) (Eq.trans (if_neg c8) (Eq.trans (if_neg c9) (if_pos c10)))))))))) ?_
                      rw [hsg, ek]
                      rcases s3 with ⟨g, rfl⟩ | ⟨g, rfl⟩ <;> rfl
                    · have f10 : ¬ a10 = 0 := fun z => c10 (lgc_eq.mpr (by rw [z0]; rw [z] at ha10; exact Int.natAbs_eq_zero.mp ha10))
                      by_cases c11 : (lg_cmp (((((((((((x / (10 : Int64)) / (10 : Int64)) / (10 : Int64)) / (10 : Int64)) / (10 : Int64)) / (10 : Int64)) / (10 : Int64)) / (10 : Int64)) / (10 : Int64)) / (10 : Int64)) / (10 : Int64)) (0 : Int64)) = 0
                      · have e11 := lgc_eq.mp c11; rw [z0] at e11; rw [e11] at ha11; have e11 : a11 = 0 := ha11.symm
                        have q1 : 10 < k := pw_lt (j := 10) s4 (by show 10000000000 ≤ a; omega)
                        have q2 : k ≤ 11 := by
                          rcases s5 with q | q
                          · omega
                          · have := pw_lt (n := a) (k := 11) (j := k - 1) (by show a < 100000000000; omega) q; omega
                        have ek : k = 11 := by omega
                        refine Eq.trans (Eq.trans (if_neg c1) (Eq.trans (if_neg c2) (Eq.trans (if_neg c3) (Eq.trans (if_neg c4) (Eq.trans (if_neg c5) (Eq.trans (if_neg c6) (Eq.trans (if_neg c7) (Eq.trans (if_neg c8) (Eq.trans (if_neg c9) (Eq.trans (if_neg c10) (if_pos c11))))))))))) ?_
                        rw [hsg, ek]
                        rcases s3 with ⟨g, rfl⟩ | ⟨g, rfl⟩ <;> rfl
                      · have f11 : ¬ a11 = 0 := fun z => c11 (lgc_eq.mpr (by rw [z0]; rw [z] at ha11; exact Int.natAbs_eq_zero.mp ha11))
                        by_cases c12 : (lg_cmp ((((((((((((x / (10 : Int64)) / (10 : Int64)) / (10 : Int64)) / (10 : Int64)) / (10 : Int64)) / (10 : Int64)) / (10 : Int64)) / (10 : Int64)) / (10 : Int64)) / (10 : Int64)) / (10 : Int64)) / (10 : Int64)) (0 : Int64)) = 0
                        · have e12 := lgc_eq.mp c12; rw [z0] at e12; rw [e12] at ha12; have e12 : a12 = 0 := ha12.symm
                          have q1 : 11 < k := pw_lt (j := 11) s4 (by show 100000000000 ≤ a; omega)
                          have q2 : k ≤ 12 := by
                            rcases s5 with q | q
                            · omega
                            · have := pw_lt (n := a) (k := 12) (j := k - 1) (by show a < 1000000000000; omega) q; omega
                          have ek : k = 12 := by omega
                          refine Eq.trans (Eq.trans (if_neg c1) (Eq.trans (if_neg c2) (Eq.trans (if_neg c3) (Eq.trans (if_neg c4) (Eq.trans (if_neg c5) (Eq.trans (if_neg c6) (Eq.trans (if_neg c7) (Eq.trans (if_neg c8) (Eq.trans (if_neg c9) (Eq.trans (if_neg c10) (Eq.trans (if_neg c11) (if_pos c12)))))))))))) ?_
                          rw [hsg, ek]
                          rcases s3 with ⟨g, rfl⟩ | ⟨g, rfl⟩ <;> rfl
                        · have f12 : ¬ a12 = 0 := fun z => c12 (lgc_eq.mpr (by rw [z0]; rw [z] at ha12; exact Int.natAbs_eq_zero.mp ha12))
                          by_cases c13 : (lg_cmp (((((((((((((x / (10 : Int64)) / (10 : Int64)) / (10 : Int64)) / (10 : Int64)) / (10 : Int64)) / (10 : Int64)) / (10 : Int64)) / (10 : Int64)) / (10 : Int64)) / (10 : Int64)) / (10 : Int64)) / (10 : Int64)) / (10 : Int64)) (0 : Int64)) = 0
                          · have e13 := lgc_eq.mp c13; rw [z0] at e13; rw [e13] at ha13; have e13 : a13 = 0 := ha13.symm
                            have q1 : 12 < k := pw_lt (j := 12) s4 (by show 1000000000000 ≤ a; omega)
                            have q2 : k ≤ 13 := by
                              rcases s5 with q | q
                              · omega
                              · have := pw_lt (n := a) (k := 13) (j := k - 1) (by show a < 10000000000000; omega) q; omega
                            have ek : k = 13 := by omega
                            refine Eq.trans (Eq.trans (if_neg c1) (Eq.trans (if_neg c2) (Eq.trans (if_neg c3) (Eq.trans (if_neg c4) (Eq.trans (if_neg c5) (Eq.trans (if_neg c6) (Eq.trans (if_neg c7) (Eq.trans (if_neg c8) (Eq.trans (if_neg c9) (Eq.trans (if_neg c10) (Eq.trans (if_neg c11) (Eq.trans (if_neg c12) (if_pos c13))))))))))))) ?_
                            rw [hsg, ek]
                            rcases s3 with ⟨g, rfl⟩ | ⟨g, rfl⟩ <;> rfl
                          · have f13 : ¬ a13 = 0 := fun z => c13 (lgc_eq.mpr (by rw [z0]; rw [z] at ha13; exact Int.natAbs_eq_zero.mp ha13))
                            by_cases c14 : (lg_cmp ((((((((((((((x / (10 : Int64)) / (10 : Int64)) / (10 : Int64)) / (10 : Int64)) / (10 : Int64)) / (10 : Int64)) / (10 : Int64)) / (10 : Int64)) / (10 : Int64)) / (10 : Int64)) / (10 : Int64)) / (10 : Int64)) / (10 : Int64)) / (10 : Int64)) (0 : Int64)) = 0
                            · have e14 := lgc_eq.mp c14; rw [z0] at e14; rw [e14] at ha14; have e14 : a14 = 0 := ha14.symm
                              have q1 : 13 < k := pw_lt (j := 13) s4 (by show 10000000000000 ≤ a; omega)
                              have q2 : k ≤ 14 := by
                                rcases s5 with q | q
                                · omega
                                · have := pw_lt (n := a) (k := 14) (j := k - 1) (by show a < 100000000000000; omega) q; omega
                              have ek : k = 14 := by omega
                              refine Eq.trans (Eq.trans (if_neg c1) (Eq.trans (if_neg c2) (Eq.trans (if_neg c3) (Eq.trans (if_neg c4) (Eq.trans (if_neg c5) (Eq.trans (if_neg c6) (Eq.trans (if_neg c7) (Eq.trans (if_neg c8) (Eq.trans (if_neg c9) (Eq.trans (if_neg c10) (Eq.trans (if_neg c11) (Eq.trans (if_neg c12) (Eq.trans (if_neg c13) (if_pos c14)))))))))))))) ?_
                              rw [hsg, ek]
                              rcases s3 with ⟨g, rfl⟩ | ⟨g, rfl⟩ <;> rfl
                            · have f14 : ¬ a14 = 0 := fun z => c14 (lgc_eq.mpr (by rw [z0]; rw [z] at ha14; exact Int.natAbs_eq_zero.mp ha14))
                              by_cases c15 : (lg_cmp (((((((((((((((x / (10 : Int64)) / (10 : Int64)) / (10 : Int64)) / (10 : Int64)) / (10 : Int64)) / (10 : Int64)) / (10 : Int64)) / (10 : Int64)) / (10 : Int64)) / (10 : Int64)) / (10 : Int64)) / (10 : Int64)) / (10 : Int64)) / (10 : Int64)) / (10 : Int64)) (0 : Int64)) = 0
                              · have e15 := lgc_eq.mp c15; rw [z0] at e15; rw [e15] at ha15; have e15 : a15 = 0 := ha15.symm
                                have q1 : 14 < k := pw_lt (j := 14) s4 (by show 100000000000000 ≤ a; omega)
                                have q2 : k ≤ 15 := by
                                  rcases s5 with q | q
                                  · omega
                                  · have := pw_lt (n := a) (k := 15) (j := k - 1) (by show a < 1000000000000000; omega) q; omega
                                have ek : k = 15 := by omega
                                refine Eq.trans (Eq.trans (if_neg c1) (Eq.trans (if_neg c2) (Eq.trans (if_neg c3) (Eq.trans (if_neg c4) (Eq.trans (if_neg c5) (Eq.trans (if_neg c6) (Eq.trans (if_neg c7) (Eq.trans (if_neg c8) (Eq.trans (if_neg c9) (Eq.trans (if_neg c10) (Eq.trans (if_neg c11) (Eq.trans (if_neg c12) (Eq.trans (if_neg c13) (Eq.trans (if_neg c14) (if_pos c15))))))))))))))) ?_
                                rw [hsg, ek]
                                rcases s3 with ⟨g, rfl⟩ | ⟨g, rfl⟩ <;> rfl
                              · have f15 : ¬ a15 = 0 := fun z => c15 (lgc_eq.mpr (by rw [z0]; rw [z] at ha15; exact Int.natAbs_eq_zero.mp ha15))
                                by_cases c16 : (lg_cmp ((((((((((((((((x / (10 : Int64)) / (10 : Int64)) / (10 : Int64)) / (10 : Int64)) / (10 : Int64)) / (10 : Int64)) / (10 : Int64)) / (10 : Int64)) / (10 : Int64)) / (10 : Int64)) / (10 : Int64)) / (10 : Int64)) / (10 : Int64)) / (10 : Int64)) / (10 : Int64)) / (10 : Int64)) (0 : Int64)) = 0
                                · have e16 := lgc_eq.mp c16; rw [z0] at e16; rw [e16] at ha16; have e16 : a16 = 0 := ha16.symm
                                  have q1 : 15 < k := pw_lt (j := 15) s4 (by show 1000000000000000 ≤ a; omega)
                                  have q2 : k ≤ 16 := by
                                    rcases s5 with q | q
                                    · omega
                                    · have := pw_lt (n := a) (k := 16) (j := k - 1) (by show a < 10000000000000000; omega) q; omega
                                  have ek : k = 16 := by omega
                                  refine Eq.trans (Eq.trans (if_neg c1) (Eq.trans (if_neg c2) (Eq.trans (if_neg c3) (Eq.trans (if_neg c4) (Eq.trans (if_neg c5) (Eq.trans (if_neg c6) (Eq.trans (if_neg c7) (Eq.trans (if_neg c8) (Eq.trans (if_neg c9) (Eq.trans (if_neg c10) (Eq.trans (if_neg c11) (Eq.trans (if_neg c12) (Eq.trans (if_neg c13) (Eq.trans (if_neg c14) (Eq.trans (if_neg c15) (if_pos c16)))))))))))))))) ?_
                                  rw [hsg, ek]
                                  rcases s3 with ⟨g, rfl⟩ | ⟨g, rfl⟩ <;> rfl
                                · have f16 : ¬ a16 = 0 := fun z => c16 (lgc_eq.mpr (by rw [z0]; rw [z] at ha16; exact Int.natAbs_eq_zero.mp ha16))
                                  by_cases c17 : (lg_cmp (((((((((((((((((x / (10 : Int64)) / (10 : Int64)) / (10 : Int64)) / (10 : Int64)) / (10 : Int64)) / (10 : Int64)) / (10 : Int64)) / (10 : Int64)) / (10 : Int64)) / (10 : Int64)) / (10 : Int64)) / (10 : Int64)) / (10 : Int64)) / (10 : Int64)) / (10 : Int64)) / (10 : Int64)) / (10 : Int64)) (0 : Int64)) = 0
                                  · have e17 := lgc_eq.mp c17; rw [z0] at e17; rw [e17] at ha17; have e17 : a17 = 0 := ha17.symm
                                    have q1 : 16 < k := pw_lt (j := 16) s4 (by show 10000000000000000 ≤ a; omega)
                                    have q2 : k ≤ 17 := by
                                      rcases s5 with q | q
                                      · omega
                                      · have := pw_lt (n := a) (k := 17) (j := k - 1) (by show a < 100000000000000000; omega) q; omega
                                    have ek : k = 17 := by omega
                                    refine Eq.trans (Eq.trans (if_neg c1) (Eq.trans (if_neg c2) (Eq.trans (if_neg c3) (Eq.trans (if_neg c4) (Eq.trans (if_neg c5) (Eq.trans (if_neg c6) (Eq.trans (if_neg c7) (Eq.trans (if_neg c8) (Eq.trans (if_neg c9) (Eq.trans (if_neg c10) (Eq.trans (if_neg c11) (Eq.trans (if_neg c12) (Eq.trans (if_neg c13) (Eq.trans (if_neg c14) (Eq.trans (if_neg c15) (Eq.trans (if_neg c16) (if_pos c17))))))))))))))))) ?_
                                    rw [hsg, ek]
                                    rcases s3 with ⟨g, rfl⟩ | ⟨g, rfl⟩ <;> rfl
                                  · have f17 : ¬ a17 = 0 := fun z => c17 (lgc_eq.mpr (by rw [z0]; rw [z] at ha17; exact Int.natAbs_eq_zero.mp ha17))
                                    by_cases c18 : (lg_cmp ((((((((((((((((((x / (10 : Int64)) / (10 : Int64)) / (10 : Int64)) / (10 : Int64)) / (10 : Int64)) / (10 : Int64)) / (10 : Int64)) / (10 : Int64)) / (10 : Int64)) / (10 : Int64)) / (10 : Int64)) / (10 : Int64)) / (10 : Int64)) / (10 : Int64)) / (10 : Int64)) / (10 : Int64)) / (10 : Int64)) / (10 : Int64)) (0 : Int64)) = 0
                                    · have e18 := lgc_eq.mp c18; rw [z0] at e18; rw [e18] at ha18; have e18 : a18 = 0 := ha18.symm
                                      have q1 : 17 < k := pw_lt (j := 17) s4 (by show 100000000000000000 ≤ a; omega)
                                      have q2 : k ≤ 18 := by
                                        rcases s5 with q | q
                                        · omega
                                        · have := pw_lt (n := a) (k := 18) (j := k - 1) (by show a < 1000000000000000000; omega) q; omega
                                      have ek : k = 18 := by omega
                                      refine Eq.trans (Eq.trans (if_neg c1) (Eq.trans (if_neg c2) (Eq.trans (if_neg c3) (Eq.trans (if_neg c4) (Eq.trans (if_neg c5) (Eq.trans (if_neg c6) (Eq.trans (if_neg c7) (Eq.trans (if_neg c8) (Eq.trans (if_neg c9) (Eq.trans (if_neg c10) (Eq.trans (if_neg c11) (Eq.trans (if_neg c12) (Eq.trans (if_neg c13) (Eq.trans (if_neg c14) (Eq.trans (if_neg c15) (Eq.trans (if_neg c16) (Eq.trans (if_neg c17) (if_pos c18)))))))))))))))))) ?_
                                      rw [hsg, ek]
                                      rcases s3 with ⟨g, rfl⟩ | ⟨g, rfl⟩ <;> rfl
                                    · have f18 : ¬ a18 = 0 := fun z => c18 (lgc_eq.mpr (by rw [z0]; rw [z] at ha18; exact Int.natAbs_eq_zero.mp ha18))
                                      have q1 : 18 < k := pw_lt (j := 18) s4 (by show 1000000000000000000 ≤ a; omega)
                                      have q2 : k ≤ 19 := by
                                        rcases s5 with q | q
                                        · omega
                                        · omega
                                      have ek : k = 19 := by omega
                                      refine Eq.trans (Eq.trans (if_neg c1) (Eq.trans (if_neg c2) (Eq.trans (if_neg c3) (Eq.trans (if_neg c4) (Eq.trans (if_neg c5) (Eq.trans (if_neg c6) (Eq.trans (if_neg c7) (Eq.trans (if_neg c8) (Eq.trans (if_neg c9) (Eq.trans (if_neg c10) (Eq.trans (if_neg c11) (Eq.trans (if_neg c12) (Eq.trans (if_neg c13) (Eq.trans (if_neg c14) (Eq.trans (if_neg c15) (Eq.trans (if_neg c16) (Eq.trans (if_neg c17) (if_neg c18)))))))))))))))))) ?_
                                      rw [hsg, ek]
                                      rcases s3 with ⟨g, rfl⟩ | ⟨g, rfl⟩ <;> rfl

