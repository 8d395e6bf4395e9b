
/-! decoding by windows: a chunk of the code is read once, a row looks at its own bytes -/
def Wn (c : ByteArray) (i : Nat) (L : List Nat) : Prop := ((c.data.toList.drop i).take L.length).map UInt8.toNat = L
theorem wn_hd {c : ByteArray} {i a : Nat} {L : List Nat} (h : Wn c i (a :: L)) : (∃ g : i < c.size, c[i].toNat = a) ∧ Wn c (i + 1) L := by
  unfold Wn at h ⊢
  have hlt : i < c.data.toList.length := by
    rcases Nat.lt_or_ge i c.data.toList.length with z | z
    · exact z
    · rw [List.drop_eq_nil_of_le z, List.take_nil, List.map_nil] at h
      cases h
  rw [List.drop_eq_getElem_cons hlt, List.length_cons, List.take_succ_cons, List.map_cons] at h
  injection h with h1 h2
  refine ⟨⟨(show i < c.data.size from by rw [← Array.length_toList]; exact hlt), ?_⟩, h2⟩
  rw [Array.getElem_toList] at h1
  exact h1
theorem wn {c : ByteArray} {o n : Nat} {M : List Nat} (h : ((c.data.toList.drop o).take n).map UInt8.toNat = M) (i : Nat) {L : List Nat} (hv : (Nat.ble (i + L.length) n && ((M.drop i).take L.length == L)) = true) : Wn c (o + i) L := by
  obtain ⟨h1, h2⟩ := (Bool.and_eq_true _ _).mp hv
  have h1 := Nat.le_of_ble_eq_true h1
  have h2 := eq_of_beq h2
  unfold Wn
  rw [← h, ← List.map_drop, ← List.map_take, List.drop_take, List.drop_drop, List.take_take, Nat.min_eq_left (by omega)] at h2
  exact h2
theorem u1_at {c : ByteArray} {i a : Nat} {L : List Nat} (h : Wn c i (a :: L)) : (Jvm.ClassFile.Reader.u1 : Jvm.ClassFile.Decoder Nat).runAt c i = .ok (a, i + 1) := by
  obtain ⟨g, rfl⟩ := (wn_hd h).1
  show ReaderT.run (dite (i < c.size) _ _ : Jvm.ClassFile.Decoder Nat) c i = _
  rw [dif_pos g]
  rfl
theorem s1_at {c : ByteArray} {i a : Nat} {L : List Nat} (h : Wn c i (a :: L)) : (Jvm.ClassFile.Reader.s1 : Jvm.ClassFile.Decoder Int).runAt c i = .ok (Jvm.ClassFile.Reader.signed 8 a, i + 1) := by
  have e : (Jvm.ClassFile.Reader.s1 : Jvm.ClassFile.Decoder Int).runAt c i = ((Jvm.ClassFile.Reader.u1 : Jvm.ClassFile.Decoder Nat).runAt c i).bind fun r => .ok (Jvm.ClassFile.Reader.signed 8 r.1, r.2) := rfl
  rw [e, u1_at h]
  rfl
theorem u2_at {c : ByteArray} {i a b : Nat} {L : List Nat} (h : Wn c i (a :: b :: L)) : (Jvm.ClassFile.Reader.u2 : Jvm.ClassFile.Decoder Nat).runAt c i = .ok (a * 256 + b, i + 2) := by
  have e : (Jvm.ClassFile.Reader.u2 : Jvm.ClassFile.Decoder Nat).runAt c i = ((Jvm.ClassFile.Reader.u1 : Jvm.ClassFile.Decoder Nat).runAt c i).bind fun r => ((Jvm.ClassFile.Reader.u1 : Jvm.ClassFile.Decoder Nat).runAt c r.2).bind fun t => .ok (r.1 * 256 + t.1, t.2) := rfl
  rw [e, u1_at h]
  show ((Jvm.ClassFile.Reader.u1 : Jvm.ClassFile.Decoder Nat).runAt c (i + 1)).bind (fun t => .ok (a * 256 + t.1, t.2)) = _
  rw [u1_at (wn_hd h).2]
  rfl
theorem s2_at {c : ByteArray} {i a b : Nat} {L : List Nat} (h : Wn c i (a :: b :: L)) : (Jvm.ClassFile.Reader.s2 : Jvm.ClassFile.Decoder Int).runAt c i = .ok (Jvm.ClassFile.Reader.signed 16 (a * 256 + b), i + 2) := by
  have e : (Jvm.ClassFile.Reader.s2 : Jvm.ClassFile.Decoder Int).runAt c i = ((Jvm.ClassFile.Reader.u2 : Jvm.ClassFile.Decoder Nat).runAt c i).bind fun r => .ok (Jvm.ClassFile.Reader.signed 16 r.1, r.2) := rfl
  rw [e, u2_at h]
  rfl
noncomputable def opf (pc : Nat) : { f : Nat → Jvm.ClassFile.Decoder Jvm.ClassFile.Instr // Jvm.ClassFile.Decoder.instr pc = Jvm.ClassFile.Reader.u1 >>= f } := ⟨_, rfl⟩
theorem dec_of {c : ByteArray} {i op : Nat} {L : List Nat} (h : Wn c i (op :: L)) : decode c i = (((opf i).1 op).runAt c (i + 1)).bind fun r => .ok (r.1, r.2 - i) := by
  have e : decode c i = (((Jvm.ClassFile.Reader.u1 : Jvm.ClassFile.Decoder Nat).runAt c i).bind fun r => ((opf i).1 r.1).runAt c r.2).bind fun r => .ok (r.1, r.2 - i) := rfl
  rw [e, u1_at h]
  rfl
theorem dec0 {c : ByteArray} {i op : Nat} {I : Jvm.ClassFile.Instr} (hI : ∀ q, ((opf i).1 op).runAt c q = .ok (I, q)) (h : Wn c i [op]) : decode c i = .ok (I, 1) := by
  rw [dec_of h, hI]
  show Except.ok (I, i + 1 - i) = _
  rw [Nat.add_sub_cancel_left]
theorem decN {α : Type} {c : ByteArray} {i op n : Nat} {L : List Nat} {v : α} (R : Jvm.ClassFile.Decoder α) (F : α → Jvm.ClassFile.Instr) (hI : ∀ q, ((opf i).1 op).runAt c q = (R.runAt c q).bind fun r => .ok (F r.1, r.2)) (h : Wn c i (op :: L)) (hR : R.runAt c (i + 1) = .ok (v, i + 1 + n)) : decode c i = .ok (F v, 1 + n) := by
  rw [dec_of h, hI, hR]
  show Except.ok (F v, i + 1 + n - i) = _
  rw [Nat.add_assoc, Nat.add_sub_cancel_left]
theorem decI {c : ByteArray} {i op a b : Nat} (F : Nat → Int → Jvm.ClassFile.Instr) (hI : ∀ q, ((opf i).1 op).runAt c q = ((Jvm.ClassFile.Reader.u1 : Jvm.ClassFile.Decoder Nat).runAt c q).bind fun r => ((Jvm.ClassFile.Reader.s1 : Jvm.ClassFile.Decoder Int).runAt c r.2).bind fun t => .ok (F r.1 t.1, t.2)) (h : Wn c i [op, a, b]) : decode c i = .ok (F a (Jvm.ClassFile.Reader.signed 8 b), 3) := by
  have h1 := (wn_hd h).2
  rw [dec_of h, hI, u1_at h1]
  show (((Jvm.ClassFile.Reader.s1 : Jvm.ClassFile.Decoder Int).runAt c (i + 1 + 1)).bind fun t => .ok (F a t.1, t.2)).bind _ = _
  rw [s1_at (wn_hd h1).2]
  show Except.ok (F a _, i + 1 + 1 + 1 - i) = _
  rw [Nat.add_assoc, Nat.add_assoc, Nat.add_sub_cancel_left]
theorem o_1 {c : ByteArray} {i : Nat} (h : Wn c i [1]) : decode c i = .ok (.aconst_null, 1) := dec0 (fun _ => rfl) h
theorem o_2 {c : ByteArray} {i : Nat} (h : Wn c i [2]) : decode c i = .ok (.iconst (-1), 1) := dec0 (fun _ => rfl) h
theorem o_3 {c : ByteArray} {i : Nat} (h : Wn c i [3]) : decode c i = .ok (.iconst 0, 1) := dec0 (fun _ => rfl) h
theorem o_4 {c : ByteArray} {i : Nat} (h : Wn c i [4]) : decode c i = .ok (.iconst 1, 1) := dec0 (fun _ => rfl) h
theorem o_5 {c : ByteArray} {i : Nat} (h : Wn c i [5]) : decode c i = .ok (.iconst 2, 1) := dec0 (fun _ => rfl) h
theorem o_6 {c : ByteArray} {i : Nat} (h : Wn c i [6]) : decode c i = .ok (.iconst 3, 1) := dec0 (fun _ => rfl) h
theorem o_7 {c : ByteArray} {i : Nat} (h : Wn c i [7]) : decode c i = .ok (.iconst 4, 1) := dec0 (fun _ => rfl) h
theorem o_8 {c : ByteArray} {i : Nat} (h : Wn c i [8]) : decode c i = .ok (.iconst 5, 1) := dec0 (fun _ => rfl) h
theorem o_9 {c : ByteArray} {i : Nat} (h : Wn c i [9]) : decode c i = .ok (.lconst 0, 1) := dec0 (fun _ => rfl) h
theorem o_10 {c : ByteArray} {i : Nat} (h : Wn c i [10]) : decode c i = .ok (.lconst 1, 1) := dec0 (fun _ => rfl) h
theorem o_16 {c : ByteArray} {i : Nat} (a : Nat) {v : Int} (hv : Jvm.ClassFile.Reader.signed 8 a = v) (h : Wn c i [16, a]) : decode c i = .ok (.bipush v, 2) := hv ▸ decN (n := 1) Jvm.ClassFile.Reader.s1 (fun a => .bipush a) (fun _ => rfl) h (s1_at (wn_hd h).2)
theorem o_17 {c : ByteArray} {i : Nat} (a b : Nat) {v : Int} (hv : Jvm.ClassFile.Reader.signed 16 (a * 256 + b) = v) (h : Wn c i [17, a, b]) : decode c i = .ok (.sipush v, 3) := hv ▸ decN (n := 2) Jvm.ClassFile.Reader.s2 (fun a => .sipush a) (fun _ => rfl) h (s2_at (wn_hd h).2)
theorem o_18 {c : ByteArray} {i : Nat} (a : Nat) (h : Wn c i [18, a]) : decode c i = .ok (.ldc a, 2) := decN (n := 1) Jvm.ClassFile.Reader.u1 (fun a => .ldc a) (fun _ => rfl) h (u1_at (wn_hd h).2)
theorem o_19 {c : ByteArray} {i : Nat} (a b : Nat) {v : Nat} (hv : a * 256 + b = v) (h : Wn c i [19, a, b]) : decode c i = .ok (.ldc_w v, 3) := hv ▸ decN (n := 2) Jvm.ClassFile.Reader.u2 (fun a => .ldc_w a) (fun _ => rfl) h (u2_at (wn_hd h).2)
theorem o_20 {c : ByteArray} {i : Nat} (a b : Nat) {v : Nat} (hv : a * 256 + b = v) (h : Wn c i [20, a, b]) : decode c i = .ok (.ldc2_w v, 3) := hv ▸ decN (n := 2) Jvm.ClassFile.Reader.u2 (fun a => .ldc2_w a) (fun _ => rfl) h (u2_at (wn_hd h).2)
theorem o_21 {c : ByteArray} {i : Nat} (a : Nat) (h : Wn c i [21, a]) : decode c i = .ok (.iload a, 2) := decN (n := 1) Jvm.ClassFile.Reader.u1 (fun a => .iload a) (fun _ => rfl) h (u1_at (wn_hd h).2)
theorem o_22 {c : ByteArray} {i : Nat} (a : Nat) (h : Wn c i [22, a]) : decode c i = .ok (.lload a, 2) := decN (n := 1) Jvm.ClassFile.Reader.u1 (fun a => .lload a) (fun _ => rfl) h (u1_at (wn_hd h).2)
theorem o_25 {c : ByteArray} {i : Nat} (a : Nat) (h : Wn c i [25, a]) : decode c i = .ok (.aload a, 2) := decN (n := 1) Jvm.ClassFile.Reader.u1 (fun a => .aload a) (fun _ => rfl) h (u1_at (wn_hd h).2)
theorem o_26 {c : ByteArray} {i : Nat} (h : Wn c i [26]) : decode c i = .ok (.iload_n 0, 1) := dec0 (fun _ => rfl) h
theorem o_27 {c : ByteArray} {i : Nat} (h : Wn c i [27]) : decode c i = .ok (.iload_n 1, 1) := dec0 (fun _ => rfl) h
theorem o_28 {c : ByteArray} {i : Nat} (h : Wn c i [28]) : decode c i = .ok (.iload_n 2, 1) := dec0 (fun _ => rfl) h
theorem o_29 {c : ByteArray} {i : Nat} (h : Wn c i [29]) : decode c i = .ok (.iload_n 3, 1) := dec0 (fun _ => rfl) h
theorem o_30 {c : ByteArray} {i : Nat} (h : Wn c i [30]) : decode c i = .ok (.lload_n 0, 1) := dec0 (fun _ => rfl) h
theorem o_31 {c : ByteArray} {i : Nat} (h : Wn c i [31]) : decode c i = .ok (.lload_n 1, 1) := dec0 (fun _ => rfl) h
theorem o_32 {c : ByteArray} {i : Nat} (h : Wn c i [32]) : decode c i = .ok (.lload_n 2, 1) := dec0 (fun _ => rfl) h
theorem o_33 {c : ByteArray} {i : Nat} (h : Wn c i [33]) : decode c i = .ok (.lload_n 3, 1) := dec0 (fun _ => rfl) h
theorem o_42 {c : ByteArray} {i : Nat} (h : Wn c i [42]) : decode c i = .ok (.aload_n 0, 1) := dec0 (fun _ => rfl) h
theorem o_43 {c : ByteArray} {i : Nat} (h : Wn c i [43]) : decode c i = .ok (.aload_n 1, 1) := dec0 (fun _ => rfl) h
theorem o_44 {c : ByteArray} {i : Nat} (h : Wn c i [44]) : decode c i = .ok (.aload_n 2, 1) := dec0 (fun _ => rfl) h
theorem o_45 {c : ByteArray} {i : Nat} (h : Wn c i [45]) : decode c i = .ok (.aload_n 3, 1) := dec0 (fun _ => rfl) h
theorem o_46 {c : ByteArray} {i : Nat} (h : Wn c i [46]) : decode c i = .ok (.iaload, 1) := dec0 (fun _ => rfl) h
theorem o_47 {c : ByteArray} {i : Nat} (h : Wn c i [47]) : decode c i = .ok (.laload, 1) := dec0 (fun _ => rfl) h
theorem o_50 {c : ByteArray} {i : Nat} (h : Wn c i [50]) : decode c i = .ok (.aaload, 1) := dec0 (fun _ => rfl) h
theorem o_51 {c : ByteArray} {i : Nat} (h : Wn c i [51]) : decode c i = .ok (.baload, 1) := dec0 (fun _ => rfl) h
theorem o_52 {c : ByteArray} {i : Nat} (h : Wn c i [52]) : decode c i = .ok (.caload, 1) := dec0 (fun _ => rfl) h
theorem o_54 {c : ByteArray} {i : Nat} (a : Nat) (h : Wn c i [54, a]) : decode c i = .ok (.istore a, 2) := decN (n := 1) Jvm.ClassFile.Reader.u1 (fun a => .istore a) (fun _ => rfl) h (u1_at (wn_hd h).2)
theorem o_55 {c : ByteArray} {i : Nat} (a : Nat) (h : Wn c i [55, a]) : decode c i = .ok (.lstore a, 2) := decN (n := 1) Jvm.ClassFile.Reader.u1 (fun a => .lstore a) (fun _ => rfl) h (u1_at (wn_hd h).2)
theorem o_58 {c : ByteArray} {i : Nat} (a : Nat) (h : Wn c i [58, a]) : decode c i = .ok (.astore a, 2) := decN (n := 1) Jvm.ClassFile.Reader.u1 (fun a => .astore a) (fun _ => rfl) h (u1_at (wn_hd h).2)
theorem o_59 {c : ByteArray} {i : Nat} (h : Wn c i [59]) : decode c i = .ok (.istore_n 0, 1) := dec0 (fun _ => rfl) h
theorem o_60 {c : ByteArray} {i : Nat} (h : Wn c i [60]) : decode c i = .ok (.istore_n 1, 1) := dec0 (fun _ => rfl) h
theorem o_61 {c : ByteArray} {i : Nat} (h : Wn c i [61]) : decode c i = .ok (.istore_n 2, 1) := dec0 (fun _ => rfl) h
theorem o_62 {c : ByteArray} {i : Nat} (h : Wn c i [62]) : decode c i = .ok (.istore_n 3, 1) := dec0 (fun _ => rfl) h
theorem o_63 {c : ByteArray} {i : Nat} (h : Wn c i [63]) : decode c i = .ok (.lstore_n 0, 1) := dec0 (fun _ => rfl) h
theorem o_64 {c : ByteArray} {i : Nat} (h : Wn c i [64]) : decode c i = .ok (.lstore_n 1, 1) := dec0 (fun _ => rfl) h
theorem o_65 {c : ByteArray} {i : Nat} (h : Wn c i [65]) : decode c i = .ok (.lstore_n 2, 1) := dec0 (fun _ => rfl) h
theorem o_66 {c : ByteArray} {i : Nat} (h : Wn c i [66]) : decode c i = .ok (.lstore_n 3, 1) := dec0 (fun _ => rfl) h
theorem o_75 {c : ByteArray} {i : Nat} (h : Wn c i [75]) : decode c i = .ok (.astore_n 0, 1) := dec0 (fun _ => rfl) h
theorem o_76 {c : ByteArray} {i : Nat} (h : Wn c i [76]) : decode c i = .ok (.astore_n 1, 1) := dec0 (fun _ => rfl) h
theorem o_77 {c : ByteArray} {i : Nat} (h : Wn c i [77]) : decode c i = .ok (.astore_n 2, 1) := dec0 (fun _ => rfl) h
theorem o_78 {c : ByteArray} {i : Nat} (h : Wn c i [78]) : decode c i = .ok (.astore_n 3, 1) := dec0 (fun _ => rfl) h
theorem o_79 {c : ByteArray} {i : Nat} (h : Wn c i [79]) : decode c i = .ok (.iastore, 1) := dec0 (fun _ => rfl) h
theorem o_80 {c : ByteArray} {i : Nat} (h : Wn c i [80]) : decode c i = .ok (.lastore, 1) := dec0 (fun _ => rfl) h
theorem o_83 {c : ByteArray} {i : Nat} (h : Wn c i [83]) : decode c i = .ok (.aastore, 1) := dec0 (fun _ => rfl) h
theorem o_84 {c : ByteArray} {i : Nat} (h : Wn c i [84]) : decode c i = .ok (.bastore, 1) := dec0 (fun _ => rfl) h
theorem o_85 {c : ByteArray} {i : Nat} (h : Wn c i [85]) : decode c i = .ok (.castore, 1) := dec0 (fun _ => rfl) h
theorem o_87 {c : ByteArray} {i : Nat} (h : Wn c i [87]) : decode c i = .ok (.pop, 1) := dec0 (fun _ => rfl) h
theorem o_88 {c : ByteArray} {i : Nat} (h : Wn c i [88]) : decode c i = .ok (.pop2, 1) := dec0 (fun _ => rfl) h
theorem o_89 {c : ByteArray} {i : Nat} (h : Wn c i [89]) : decode c i = .ok (.dup, 1) := dec0 (fun _ => rfl) h
theorem o_90 {c : ByteArray} {i : Nat} (h : Wn c i [90]) : decode c i = .ok (.dup_x1, 1) := dec0 (fun _ => rfl) h
theorem o_91 {c : ByteArray} {i : Nat} (h : Wn c i [91]) : decode c i = .ok (.dup_x2, 1) := dec0 (fun _ => rfl) h
theorem o_92 {c : ByteArray} {i : Nat} (h : Wn c i [92]) : decode c i = .ok (.dup2, 1) := dec0 (fun _ => rfl) h
theorem o_96 {c : ByteArray} {i : Nat} (h : Wn c i [96]) : decode c i = .ok (.iadd, 1) := dec0 (fun _ => rfl) h
theorem o_97 {c : ByteArray} {i : Nat} (h : Wn c i [97]) : decode c i = .ok (.ladd, 1) := dec0 (fun _ => rfl) h
theorem o_100 {c : ByteArray} {i : Nat} (h : Wn c i [100]) : decode c i = .ok (.isub, 1) := dec0 (fun _ => rfl) h
theorem o_101 {c : ByteArray} {i : Nat} (h : Wn c i [101]) : decode c i = .ok (.lsub, 1) := dec0 (fun _ => rfl) h
theorem o_104 {c : ByteArray} {i : Nat} (h : Wn c i [104]) : decode c i = .ok (.imul, 1) := dec0 (fun _ => rfl) h
theorem o_105 {c : ByteArray} {i : Nat} (h : Wn c i [105]) : decode c i = .ok (.lmul, 1) := dec0 (fun _ => rfl) h
theorem o_108 {c : ByteArray} {i : Nat} (h : Wn c i [108]) : decode c i = .ok (.idiv, 1) := dec0 (fun _ => rfl) h
theorem o_109 {c : ByteArray} {i : Nat} (h : Wn c i [109]) : decode c i = .ok (.ldiv, 1) := dec0 (fun _ => rfl) h
theorem o_112 {c : ByteArray} {i : Nat} (h : Wn c i [112]) : decode c i = .ok (.irem, 1) := dec0 (fun _ => rfl) h
theorem o_113 {c : ByteArray} {i : Nat} (h : Wn c i [113]) : decode c i = .ok (.lrem, 1) := dec0 (fun _ => rfl) h
theorem o_116 {c : ByteArray} {i : Nat} (h : Wn c i [116]) : decode c i = .ok (.ineg, 1) := dec0 (fun _ => rfl) h
theorem o_117 {c : ByteArray} {i : Nat} (h : Wn c i [117]) : decode c i = .ok (.lneg, 1) := dec0 (fun _ => rfl) h
theorem o_120 {c : ByteArray} {i : Nat} (h : Wn c i [120]) : decode c i = .ok (.ishl, 1) := dec0 (fun _ => rfl) h
theorem o_121 {c : ByteArray} {i : Nat} (h : Wn c i [121]) : decode c i = .ok (.lshl, 1) := dec0 (fun _ => rfl) h
theorem o_122 {c : ByteArray} {i : Nat} (h : Wn c i [122]) : decode c i = .ok (.ishr, 1) := dec0 (fun _ => rfl) h
theorem o_123 {c : ByteArray} {i : Nat} (h : Wn c i [123]) : decode c i = .ok (.lshr, 1) := dec0 (fun _ => rfl) h
theorem o_124 {c : ByteArray} {i : Nat} (h : Wn c i [124]) : decode c i = .ok (.iushr, 1) := dec0 (fun _ => rfl) h
theorem o_125 {c : ByteArray} {i : Nat} (h : Wn c i [125]) : decode c i = .ok (.lushr, 1) := dec0 (fun _ => rfl) h
theorem o_126 {c : ByteArray} {i : Nat} (h : Wn c i [126]) : decode c i = .ok (.iand, 1) := dec0 (fun _ => rfl) h
theorem o_127 {c : ByteArray} {i : Nat} (h : Wn c i [127]) : decode c i = .ok (.land, 1) := dec0 (fun _ => rfl) h
theorem o_128 {c : ByteArray} {i : Nat} (h : Wn c i [128]) : decode c i = .ok (.ior, 1) := dec0 (fun _ => rfl) h
theorem o_129 {c : ByteArray} {i : Nat} (h : Wn c i [129]) : decode c i = .ok (.lor, 1) := dec0 (fun _ => rfl) h
theorem o_130 {c : ByteArray} {i : Nat} (h : Wn c i [130]) : decode c i = .ok (.ixor, 1) := dec0 (fun _ => rfl) h
theorem o_131 {c : ByteArray} {i : Nat} (h : Wn c i [131]) : decode c i = .ok (.lxor, 1) := dec0 (fun _ => rfl) h
theorem o_132 {c : ByteArray} {i : Nat} (a b : Nat) {v : Int} (hv : Jvm.ClassFile.Reader.signed 8 b = v) (h : Wn c i [132, a, b]) : decode c i = .ok (.iinc a v, 3) := hv ▸ decI (fun a b => .iinc a b) (fun _ => rfl) h
theorem o_133 {c : ByteArray} {i : Nat} (h : Wn c i [133]) : decode c i = .ok (.i2l, 1) := dec0 (fun _ => rfl) h
theorem o_136 {c : ByteArray} {i : Nat} (h : Wn c i [136]) : decode c i = .ok (.l2i, 1) := dec0 (fun _ => rfl) h
theorem o_145 {c : ByteArray} {i : Nat} (h : Wn c i [145]) : decode c i = .ok (.i2b, 1) := dec0 (fun _ => rfl) h
theorem o_146 {c : ByteArray} {i : Nat} (h : Wn c i [146]) : decode c i = .ok (.i2c, 1) := dec0 (fun _ => rfl) h
theorem o_147 {c : ByteArray} {i : Nat} (h : Wn c i [147]) : decode c i = .ok (.i2s, 1) := dec0 (fun _ => rfl) h
theorem o_148 {c : ByteArray} {i : Nat} (h : Wn c i [148]) : decode c i = .ok (.lcmp, 1) := dec0 (fun _ => rfl) h
theorem o_153 {c : ByteArray} {i : Nat} (a b : Nat) {v : Int} (hv : Jvm.ClassFile.Reader.signed 16 (a * 256 + b) = v) (h : Wn c i [153, a, b]) : decode c i = .ok (.ifCond .eq v, 3) := hv ▸ decN (n := 2) Jvm.ClassFile.Reader.s2 (fun a => .ifCond .eq a) (fun _ => rfl) h (s2_at (wn_hd h).2)
theorem o_154 {c : ByteArray} {i : Nat} (a b : Nat) {v : Int} (hv : Jvm.ClassFile.Reader.signed 16 (a * 256 + b) = v) (h : Wn c i [154, a, b]) : decode c i = .ok (.ifCond .ne v, 3) := hv ▸ decN (n := 2) Jvm.ClassFile.Reader.s2 (fun a => .ifCond .ne a) (fun _ => rfl) h (s2_at (wn_hd h).2)
theorem o_155 {c : ByteArray} {i : Nat} (a b : Nat) {v : Int} (hv : Jvm.ClassFile.Reader.signed 16 (a * 256 + b) = v) (h : Wn c i [155, a, b]) : decode c i = .ok (.ifCond .lt v, 3) := hv ▸ decN (n := 2) Jvm.ClassFile.Reader.s2 (fun a => .ifCond .lt a) (fun _ => rfl) h (s2_at (wn_hd h).2)
theorem o_156 {c : ByteArray} {i : Nat} (a b : Nat) {v : Int} (hv : Jvm.ClassFile.Reader.signed 16 (a * 256 + b) = v) (h : Wn c i [156, a, b]) : decode c i = .ok (.ifCond .ge v, 3) := hv ▸ decN (n := 2) Jvm.ClassFile.Reader.s2 (fun a => .ifCond .ge a) (fun _ => rfl) h (s2_at (wn_hd h).2)
theorem o_157 {c : ByteArray} {i : Nat} (a b : Nat) {v : Int} (hv : Jvm.ClassFile.Reader.signed 16 (a * 256 + b) = v) (h : Wn c i [157, a, b]) : decode c i = .ok (.ifCond .gt v, 3) := hv ▸ decN (n := 2) Jvm.ClassFile.Reader.s2 (fun a => .ifCond .gt a) (fun _ => rfl) h (s2_at (wn_hd h).2)
theorem o_158 {c : ByteArray} {i : Nat} (a b : Nat) {v : Int} (hv : Jvm.ClassFile.Reader.signed 16 (a * 256 + b) = v) (h : Wn c i [158, a, b]) : decode c i = .ok (.ifCond .le v, 3) := hv ▸ decN (n := 2) Jvm.ClassFile.Reader.s2 (fun a => .ifCond .le a) (fun _ => rfl) h (s2_at (wn_hd h).2)
theorem o_159 {c : ByteArray} {i : Nat} (a b : Nat) {v : Int} (hv : Jvm.ClassFile.Reader.signed 16 (a * 256 + b) = v) (h : Wn c i [159, a, b]) : decode c i = .ok (.if_icmp .eq v, 3) := hv ▸ decN (n := 2) Jvm.ClassFile.Reader.s2 (fun a => .if_icmp .eq a) (fun _ => rfl) h (s2_at (wn_hd h).2)
theorem o_160 {c : ByteArray} {i : Nat} (a b : Nat) {v : Int} (hv : Jvm.ClassFile.Reader.signed 16 (a * 256 + b) = v) (h : Wn c i [160, a, b]) : decode c i = .ok (.if_icmp .ne v, 3) := hv ▸ decN (n := 2) Jvm.ClassFile.Reader.s2 (fun a => .if_icmp .ne a) (fun _ => rfl) h (s2_at (wn_hd h).2)
theorem o_161 {c : ByteArray} {i : Nat} (a b : Nat) {v : Int} (hv : Jvm.ClassFile.Reader.signed 16 (a * 256 + b) = v) (h : Wn c i [161, a, b]) : decode c i = .ok (.if_icmp .lt v, 3) := hv ▸ decN (n := 2) Jvm.ClassFile.Reader.s2 (fun a => .if_icmp .lt a) (fun _ => rfl) h (s2_at (wn_hd h).2)
theorem o_162 {c : ByteArray} {i : Nat} (a b : Nat) {v : Int} (hv : Jvm.ClassFile.Reader.signed 16 (a * 256 + b) = v) (h : Wn c i [162, a, b]) : decode c i = .ok (.if_icmp .ge v, 3) := hv ▸ decN (n := 2) Jvm.ClassFile.Reader.s2 (fun a => .if_icmp .ge a) (fun _ => rfl) h (s2_at (wn_hd h).2)
theorem o_163 {c : ByteArray} {i : Nat} (a b : Nat) {v : Int} (hv : Jvm.ClassFile.Reader.signed 16 (a * 256 + b) = v) (h : Wn c i [163, a, b]) : decode c i = .ok (.if_icmp .gt v, 3) := hv ▸ decN (n := 2) Jvm.ClassFile.Reader.s2 (fun a => .if_icmp .gt a) (fun _ => rfl) h (s2_at (wn_hd h).2)
theorem o_164 {c : ByteArray} {i : Nat} (a b : Nat) {v : Int} (hv : Jvm.ClassFile.Reader.signed 16 (a * 256 + b) = v) (h : Wn c i [164, a, b]) : decode c i = .ok (.if_icmp .le v, 3) := hv ▸ decN (n := 2) Jvm.ClassFile.Reader.s2 (fun a => .if_icmp .le a) (fun _ => rfl) h (s2_at (wn_hd h).2)
theorem o_165 {c : ByteArray} {i : Nat} (a b : Nat) {v : Int} (hv : Jvm.ClassFile.Reader.signed 16 (a * 256 + b) = v) (h : Wn c i [165, a, b]) : decode c i = .ok (.if_acmp .eq v, 3) := hv ▸ decN (n := 2) Jvm.ClassFile.Reader.s2 (fun a => .if_acmp .eq a) (fun _ => rfl) h (s2_at (wn_hd h).2)
theorem o_166 {c : ByteArray} {i : Nat} (a b : Nat) {v : Int} (hv : Jvm.ClassFile.Reader.signed 16 (a * 256 + b) = v) (h : Wn c i [166, a, b]) : decode c i = .ok (.if_acmp .ne v, 3) := hv ▸ decN (n := 2) Jvm.ClassFile.Reader.s2 (fun a => .if_acmp .ne a) (fun _ => rfl) h (s2_at (wn_hd h).2)
theorem o_167 {c : ByteArray} {i : Nat} (a b : Nat) {v : Int} (hv : Jvm.ClassFile.Reader.signed 16 (a * 256 + b) = v) (h : Wn c i [167, a, b]) : decode c i = .ok (.goto v, 3) := hv ▸ decN (n := 2) Jvm.ClassFile.Reader.s2 (fun a => .goto a) (fun _ => rfl) h (s2_at (wn_hd h).2)
theorem o_172 {c : ByteArray} {i : Nat} (h : Wn c i [172]) : decode c i = .ok (.ireturn, 1) := dec0 (fun _ => rfl) h
theorem o_173 {c : ByteArray} {i : Nat} (h : Wn c i [173]) : decode c i = .ok (.lreturn, 1) := dec0 (fun _ => rfl) h
theorem o_176 {c : ByteArray} {i : Nat} (h : Wn c i [176]) : decode c i = .ok (.areturn, 1) := dec0 (fun _ => rfl) h
theorem o_177 {c : ByteArray} {i : Nat} (h : Wn c i [177]) : decode c i = .ok (.return_, 1) := dec0 (fun _ => rfl) h
theorem o_178 {c : ByteArray} {i : Nat} (a b : Nat) {v : Nat} (hv : a * 256 + b = v) (h : Wn c i [178, a, b]) : decode c i = .ok (.getstatic v, 3) := hv ▸ decN (n := 2) Jvm.ClassFile.Reader.u2 (fun a => .getstatic a) (fun _ => rfl) h (u2_at (wn_hd h).2)
theorem o_179 {c : ByteArray} {i : Nat} (a b : Nat) {v : Nat} (hv : a * 256 + b = v) (h : Wn c i [179, a, b]) : decode c i = .ok (.putstatic v, 3) := hv ▸ decN (n := 2) Jvm.ClassFile.Reader.u2 (fun a => .putstatic a) (fun _ => rfl) h (u2_at (wn_hd h).2)
theorem o_180 {c : ByteArray} {i : Nat} (a b : Nat) {v : Nat} (hv : a * 256 + b = v) (h : Wn c i [180, a, b]) : decode c i = .ok (.getfield v, 3) := hv ▸ decN (n := 2) Jvm.ClassFile.Reader.u2 (fun a => .getfield a) (fun _ => rfl) h (u2_at (wn_hd h).2)
theorem o_181 {c : ByteArray} {i : Nat} (a b : Nat) {v : Nat} (hv : a * 256 + b = v) (h : Wn c i [181, a, b]) : decode c i = .ok (.putfield v, 3) := hv ▸ decN (n := 2) Jvm.ClassFile.Reader.u2 (fun a => .putfield a) (fun _ => rfl) h (u2_at (wn_hd h).2)
theorem o_182 {c : ByteArray} {i : Nat} (a b : Nat) {v : Nat} (hv : a * 256 + b = v) (h : Wn c i [182, a, b]) : decode c i = .ok (.invokevirtual v, 3) := hv ▸ decN (n := 2) Jvm.ClassFile.Reader.u2 (fun a => .invokevirtual a) (fun _ => rfl) h (u2_at (wn_hd h).2)
theorem o_183 {c : ByteArray} {i : Nat} (a b : Nat) {v : Nat} (hv : a * 256 + b = v) (h : Wn c i [183, a, b]) : decode c i = .ok (.invokespecial v, 3) := hv ▸ decN (n := 2) Jvm.ClassFile.Reader.u2 (fun a => .invokespecial a) (fun _ => rfl) h (u2_at (wn_hd h).2)
theorem o_184 {c : ByteArray} {i : Nat} (a b : Nat) {v : Nat} (hv : a * 256 + b = v) (h : Wn c i [184, a, b]) : decode c i = .ok (.invokestatic v, 3) := hv ▸ decN (n := 2) Jvm.ClassFile.Reader.u2 (fun a => .invokestatic a) (fun _ => rfl) h (u2_at (wn_hd h).2)
theorem o_187 {c : ByteArray} {i : Nat} (a b : Nat) {v : Nat} (hv : a * 256 + b = v) (h : Wn c i [187, a, b]) : decode c i = .ok (.new v, 3) := hv ▸ decN (n := 2) Jvm.ClassFile.Reader.u2 (fun a => .new a) (fun _ => rfl) h (u2_at (wn_hd h).2)
theorem o_189 {c : ByteArray} {i : Nat} (a b : Nat) {v : Nat} (hv : a * 256 + b = v) (h : Wn c i [189, a, b]) : decode c i = .ok (.anewarray v, 3) := hv ▸ decN (n := 2) Jvm.ClassFile.Reader.u2 (fun a => .anewarray a) (fun _ => rfl) h (u2_at (wn_hd h).2)
theorem o_190 {c : ByteArray} {i : Nat} (h : Wn c i [190]) : decode c i = .ok (.arraylength, 1) := dec0 (fun _ => rfl) h
theorem o_191 {c : ByteArray} {i : Nat} (h : Wn c i [191]) : decode c i = .ok (.athrow, 1) := dec0 (fun _ => rfl) h
theorem o_192 {c : ByteArray} {i : Nat} (a b : Nat) {v : Nat} (hv : a * 256 + b = v) (h : Wn c i [192, a, b]) : decode c i = .ok (.checkcast v, 3) := hv ▸ decN (n := 2) Jvm.ClassFile.Reader.u2 (fun a => .checkcast a) (fun _ => rfl) h (u2_at (wn_hd h).2)
theorem o_193 {c : ByteArray} {i : Nat} (a b : Nat) {v : Nat} (hv : a * 256 + b = v) (h : Wn c i [193, a, b]) : decode c i = .ok (.instanceof v, 3) := hv ▸ decN (n := 2) Jvm.ClassFile.Reader.u2 (fun a => .instanceof a) (fun _ => rfl) h (u2_at (wn_hd h).2)
theorem o_198 {c : ByteArray} {i : Nat} (a b : Nat) {v : Int} (hv : Jvm.ClassFile.Reader.signed 16 (a * 256 + b) = v) (h : Wn c i [198, a, b]) : decode c i = .ok (.ifnull v, 3) := hv ▸ decN (n := 2) Jvm.ClassFile.Reader.s2 (fun a => .ifnull a) (fun _ => rfl) h (s2_at (wn_hd h).2)
theorem o_199 {c : ByteArray} {i : Nat} (a b : Nat) {v : Int} (hv : Jvm.ClassFile.Reader.signed 16 (a * 256 + b) = v) (h : Wn c i [199, a, b]) : decode c i = .ok (.ifnonnull v, 3) := hv ▸ decN (n := 2) Jvm.ClassFile.Reader.s2 (fun a => .ifnonnull a) (fun _ => rfl) h (s2_at (wn_hd h).2)
