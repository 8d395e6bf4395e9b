
/-! decoding by windows: a chunk of the code is read once, a row looks at its own bytes -/
def Wn (c : ByteArray) (i : Nat) (L : List Nat) : Prop := ((c.data.toList.drop i).take L.length).map UInt8.toNat = L
theorem wn_hd {c : ByteArray} {i a : Nat} {L : List Nat} (h : Wn c i (a :: L)) : (∃ g : i < c.size, c[i].toNat = a) ∧ Wn c (i + 1) L := by
  unfold Wn at h ⊢
  have hlt : i < c.data.toList.length := by
    rcases Nat.lt_or_ge i c.data.toList.length with z | z
    · exact z
    · rw [List.drop_eq_nil_of_le z, List.take_nil, List.map_nil] at h
      cases h
  rw [List.drop_eq_getElem_cons hlt, List.length_cons, List.take_succ_cons, List.map_cons] at h
  injection h with h1 h2
  refine ⟨⟨(show i < c.data.size from by rw [← Array.length_toList]; exact hlt), ?_⟩, h2⟩
  rw [Array.getElem_toList] at h1
  exact h1
theorem wn {c : ByteArray} {o n : Nat} {M : List Nat} (h : ((c.data.toList.drop o).take n).map UInt8.toNat = M) (i : Nat) {L : List Nat} (hv : (Nat.ble (i + L.length) n && ((M.drop i).take L.length == L)) = true) : Wn c (o + i) L := by
  obtain ⟨h1, h2⟩ := (Bool.and_eq_true _ _).mp hv
  have h1 := Nat.le_of_ble_eq_true h1
  have h2 := eq_of_beq h2
  unfold Wn
  rw [← h, ← List.map_drop, ← List.map_take, List.drop_take, List.drop_drop, List.take_take, Nat.min_eq_left (by omega)] at h2
  exact h2
theorem u1_at {c : ByteArray} {i a : Nat} {L : List Nat} (h : Wn c i (a :: L)) : (Jvm.ClassFile.Reader.u1 : Jvm.ClassFile.Decoder Nat).runAt c i = .ok (a, i + 1) := by
  obtain ⟨g, rfl⟩ := (wn_hd h).1
  show ReaderT.run (dite (i < c.size) _ _ : Jvm.ClassFile.Decoder Nat) c i = _
  rw [dif_pos g]
  rfl
theorem s1_at {c : ByteArray} {i a : Nat} {L : List Nat} (h : Wn c i (a :: L)) : (Jvm.ClassFile.Reader.s1 : Jvm.ClassFile.Decoder Int).runAt c i = .ok (Jvm.ClassFile.Reader.signed 8 a, i + 1) := by
  have e : (Jvm.ClassFile.Reader.s1 : Jvm.ClassFile.Decoder Int).runAt c i = ((Jvm.ClassFile.Reader.u1 : Jvm.ClassFile.Decoder Nat).runAt c i).bind fun r => .ok (Jvm.ClassFile.Reader.signed 8 r.1, r.2) := rfl
  rw [e, u1_at h]
  rfl
theorem u2_at {c : ByteArray} {i a b : Nat} {L : List Nat} (h : Wn c i (a :: b :: L)) : (Jvm.ClassFile.Reader.u2 : Jvm.ClassFile.Decoder Nat).runAt c i = .ok (a * 256 + b, i + 2) := by
  have e : (Jvm.ClassFile.Reader.u2 : Jvm.ClassFile.Decoder Nat).runAt c i = ((Jvm.ClassFile.Reader.u1 : Jvm.ClassFile.Decoder Nat).runAt c i).bind fun r => ((Jvm.ClassFile.Reader.u1 : Jvm.ClassFile.Decoder Nat).runAt c r.2).bind fun t => .ok (r.1 * 256 + t.1, t.2) := rfl
  rw [e, u1_at h]
  show ((Jvm.ClassFile.Reader.u1 : Jvm.ClassFile.Decoder Nat).runAt c (i + 1)).bind (fun t => .ok (a * 256 + t.1, t.2)) = _
  rw [u1_at (wn_hd h).2]
  rfl
theorem s2_at {c : ByteArray} {i a b : Nat} {L : List Nat} (h : Wn c i (a :: b :: L)) : (Jvm.ClassFile.Reader.s2 : Jvm.ClassFile.Decoder Int).runAt c i = .ok (Jvm.ClassFile.Reader.signed 16 (a * 256 + b), i + 2) := by
  have e : (Jvm.ClassFile.Reader.s2 : Jvm.ClassFile.Decoder Int).runAt c i = ((Jvm.ClassFile.Reader.u2 : Jvm.ClassFile.Decoder Nat).runAt c i).bind fun r => .ok (Jvm.ClassFile.Reader.signed 16 r.1, r.2) := rfl
  rw [e, u2_at h]
  rfl
noncomputable def opf (pc : Nat) : { f : Nat → Jvm.ClassFile.Decoder Jvm.ClassFile.Instr // Jvm.ClassFile.Decoder.instr pc = Jvm.ClassFile.Reader.u1 >>= f } := ⟨_, rfl⟩
theorem dec_of {c : ByteArray} {i op : Nat} {L : List Nat} (h : Wn c i (op :: L)) : decode c i = (((opf i).1 op).runAt c (i + 1)).bind fun r => .ok (r.1, r.2 - i) := by
  have e : decode c i = (((Jvm.ClassFile.Reader.u1 : Jvm.ClassFile.Decoder Nat).runAt c i).bind fun r => ((opf i).1 r.1).runAt c r.2).bind fun r => .ok (r.1, r.2 - i) := rfl
  rw [e, u1_at h]
  rfl
/-- a row of decoding -/
abbrev Dc (c : ByteArray) (pc : Nat) (I : Jvm.ClassFile.Instr) (n : Nat) : Prop := decode c pc = .ok (I, n)
theorem dec0 {c : ByteArray} {i op : Nat} {I : Jvm.ClassFile.Instr} (hI : ∀ q, ((opf i).1 op).runAt c q = .ok (I, q)) (h : Wn c i [op]) : decode c i = .ok (I, 1) := by
  rw [dec_of h, hI]
  show Except.ok (I, i + 1 - i) = _
  rw [Nat.add_sub_cancel_left]
theorem decN {α : Type} {c : ByteArray} {i op n : Nat} {L : List Nat} {v : α} (R : Jvm.ClassFile.Decoder α) (F : α → Jvm.ClassFile.Instr) (hI : ∀ q, ((opf i).1 op).runAt c q = (R.runAt c q).bind fun r => .ok (F r.1, r.2)) (h : Wn c i (op :: L)) (hR : R.runAt c (i + 1) = .ok (v, i + 1 + n)) : decode c i = .ok (F v, 1 + n) := by
  rw [dec_of h, hI, hR]
  show Except.ok (F v, i + 1 + n - i) = _
  rw [Nat.add_assoc, Nat.add_sub_cancel_left]
theorem decI {c : ByteArray} {i op a b : Nat} (F : Nat → Int → Jvm.ClassFile.Instr) (hI : ∀ q, ((opf i).1 op).runAt c q = ((Jvm.ClassFile.Reader.u1 : Jvm.ClassFile.Decoder Nat).runAt c q).bind fun r => ((Jvm.ClassFile.Reader.s1 : Jvm.ClassFile.Decoder Int).runAt c r.2).bind fun t => .ok (F r.1 t.1, t.2)) (h : Wn c i [op, a, b]) : decode c i = .ok (F a (Jvm.ClassFile.Reader.signed 8 b), 3) := by
  have h1 := (wn_hd h).2
  rw [dec_of h, hI, u1_at h1]
  show (((Jvm.ClassFile.Reader.s1 : Jvm.ClassFile.Decoder Int).runAt c (i + 1 + 1)).bind fun t => .ok (F a t.1, t.2)).bind _ = _
  rw [s1_at (wn_hd h1).2]
  show Except.ok (F a _, i + 1 + 1 + 1 - i) = _
  rw [Nat.add_assoc, Nat.add_assoc, Nat.add_sub_cancel_left]
theorem o_1 {c : ByteArray} {i : Nat} (h : Wn c i [1]) : Dc c i (.aconst_null) 1 := dec0 (fun _ => rfl) h
theorem o_2 {c : ByteArray} {i : Nat} (h : Wn c i [2]) : Dc c i (.iconst (-1)) 1 := dec0 (fun _ => rfl) h
theorem o_3 {c : ByteArray} {i : Nat} (h : Wn c i [3]) : Dc c i (.iconst 0) 1 := dec0 (fun _ => rfl) h
theorem o_4 {c : ByteArray} {i : Nat} (h : Wn c i [4]) : Dc c i (.iconst 1) 1 := dec0 (fun _ => rfl) h
theorem o_5 {c : ByteArray} {i : Nat} (h : Wn c i [5]) : Dc c i (.iconst 2) 1 := dec0 (fun _ => rfl) h
theorem o_6 {c : ByteArray} {i : Nat} (h : Wn c i [6]) : Dc c i (.iconst 3) 1 := dec0 (fun _ => rfl) h
theorem o_7 {c : ByteArray} {i : Nat} (h : Wn c i [7]) : Dc c i (.iconst 4) 1 := dec0 (fun _ => rfl) h
theorem o_8 {c : ByteArray} {i : Nat} (h : Wn c i [8]) : Dc c i (.iconst 5) 1 := dec0 (fun _ => rfl) h
theorem o_9 {c : ByteArray} {i : Nat} (h : Wn c i [9]) : Dc c i (.lconst 0) 1 := dec0 (fun _ => rfl) h
theorem o_10 {c : ByteArray} {i : Nat} (h : Wn c i [10]) : Dc c i (.lconst 1) 1 := dec0 (fun _ => rfl) h
theorem o_16 {c : ByteArray} {i : Nat} (a : Nat) {v : Int} (hv : Jvm.ClassFile.Reader.signed 8 a = v) (h : Wn c i [16, a]) : Dc c i (.bipush v) 2 := hv ▸ decN (n := 1) Jvm.ClassFile.Reader.s1 (fun a => .bipush a) (fun _ => rfl) h (s1_at (wn_hd h).2)
theorem o_17 {c : ByteArray} {i : Nat} (a b : Nat) {v : Int} (hv : Jvm.ClassFile.Reader.signed 16 (a * 256 + b) = v) (h : Wn c i [17, a, b]) : Dc c i (.sipush v) 3 := hv ▸ decN (n := 2) Jvm.ClassFile.Reader.s2 (fun a => .sipush a) (fun _ => rfl) h (s2_at (wn_hd h).2)
theorem o_18 {c : ByteArray} {i : Nat} (a : Nat) (h : Wn c i [18, a]) : Dc c i (.ldc a) 2 := decN (n := 1) Jvm.ClassFile.Reader.u1 (fun a => .ldc a) (fun _ => rfl) h (u1_at (wn_hd h).2)
theorem o_19 {c : ByteArray} {i : Nat} (a b : Nat) {v : Nat} (hv : a * 256 + b = v) (h : Wn c i [19, a, b]) : Dc c i (.ldc_w v) 3 := hv ▸ decN (n := 2) Jvm.ClassFile.Reader.u2 (fun a => .ldc_w a) (fun _ => rfl) h (u2_at (wn_hd h).2)
theorem o_20 {c : ByteArray} {i : Nat} (a b : Nat) {v : Nat} (hv : a * 256 + b = v) (h : Wn c i [20, a, b]) : Dc c i (.ldc2_w v) 3 := hv ▸ decN (n := 2) Jvm.ClassFile.Reader.u2 (fun a => .ldc2_w a) (fun _ => rfl) h (u2_at (wn_hd h).2)
theorem o_21 {c : ByteArray} {i : Nat} (a : Nat) (h : Wn c i [21, a]) : Dc c i (.iload a) 2 := decN (n := 1) Jvm.ClassFile.Reader.u1 (fun a => .iload a) (fun _ => rfl) h (u1_at (wn_hd h).2)
theorem o_22 {c : ByteArray} {i : Nat} (a : Nat) (h : Wn c i [22, a]) : Dc c i (.lload a) 2 := decN (n := 1) Jvm.ClassFile.Reader.u1 (fun a => .lload a) (fun _ => rfl) h (u1_at (wn_hd h).2)
theorem o_25 {c : ByteArray} {i : Nat} (a : Nat) (h : Wn c i [25, a]) : Dc c i (.aload a) 2 := decN (n := 1) Jvm.ClassFile.Reader.u1 (fun a => .aload a) (fun _ => rfl) h (u1_at (wn_hd h).2)
theorem o_26 {c : ByteArray} {i : Nat} (h : Wn c i [26]) : Dc c i (.iload_n 0) 1 := dec0 (fun _ => rfl) h
theorem o_27 {c : ByteArray} {i : Nat} (h : Wn c i [27]) : Dc c i (.iload_n 1) 1 := dec0 (fun _ => rfl) h
theorem o_28 {c : ByteArray} {i : Nat} (h : Wn c i [28]) : Dc c i (.iload_n 2) 1 := dec0 (fun _ => rfl) h
theorem o_29 {c : ByteArray} {i : Nat} (h : Wn c i [29]) : Dc c i (.iload_n 3) 1 := dec0 (fun _ => rfl) h
theorem o_30 {c : ByteArray} {i : Nat} (h : Wn c i [30]) : Dc c i (.lload_n 0) 1 := dec0 (fun _ => rfl) h
theorem o_31 {c : ByteArray} {i : Nat} (h : Wn c i [31]) : Dc c i (.lload_n 1) 1 := dec0 (fun _ => rfl) h
theorem o_32 {c : ByteArray} {i : Nat} (h : Wn c i [32]) : Dc c i (.lload_n 2) 1 := dec0 (fun _ => rfl) h
theorem o_33 {c : ByteArray} {i : Nat} (h : Wn c i [33]) : Dc c i (.lload_n 3) 1 := dec0 (fun _ => rfl) h
theorem o_42 {c : ByteArray} {i : Nat} (h : Wn c i [42]) : Dc c i (.aload_n 0) 1 := dec0 (fun _ => rfl) h
theorem o_43 {c : ByteArray} {i : Nat} (h : Wn c i [43]) : Dc c i (.aload_n 1) 1 := dec0 (fun _ => rfl) h
theorem o_44 {c : ByteArray} {i : Nat} (h : Wn c i [44]) : Dc c i (.aload_n 2) 1 := dec0 (fun _ => rfl) h
theorem o_45 {c : ByteArray} {i : Nat} (h : Wn c i [45]) : Dc c i (.aload_n 3) 1 := dec0 (fun _ => rfl) h
theorem o_46 {c : ByteArray} {i : Nat} (h : Wn c i [46]) : Dc c i (.iaload) 1 := dec0 (fun _ => rfl) h
theorem o_47 {c : ByteArray} {i : Nat} (h : Wn c i [47]) : Dc c i (.laload) 1 := dec0 (fun _ => rfl) h
theorem o_50 {c : ByteArray} {i : Nat} (h : Wn c i [50]) : Dc c i (.aaload) 1 := dec0 (fun _ => rfl) h
theorem o_51 {c : ByteArray} {i : Nat} (h : Wn c i [51]) : Dc c i (.baload) 1 := dec0 (fun _ => rfl) h
theorem o_52 {c : ByteArray} {i : Nat} (h : Wn c i [52]) : Dc c i (.caload) 1 := dec0 (fun _ => rfl) h
theorem o_54 {c : ByteArray} {i : Nat} (a : Nat) (h : Wn c i [54, a]) : Dc c i (.istore a) 2 := decN (n := 1) Jvm.ClassFile.Reader.u1 (fun a => .istore a) (fun _ => rfl) h (u1_at (wn_hd h).2)
theorem o_55 {c : ByteArray} {i : Nat} (a : Nat) (h : Wn c i [55, a]) : Dc c i (.lstore a) 2 := decN (n := 1) Jvm.ClassFile.Reader.u1 (fun a => .lstore a) (fun _ => rfl) h (u1_at (wn_hd h).2)
theorem o_58 {c : ByteArray} {i : Nat} (a : Nat) (h : Wn c i [58, a]) : Dc c i (.astore a) 2 := decN (n := 1) Jvm.ClassFile.Reader.u1 (fun a => .astore a) (fun _ => rfl) h (u1_at (wn_hd h).2)
theorem o_59 {c : ByteArray} {i : Nat} (h : Wn c i [59]) : Dc c i (.istore_n 0) 1 := dec0 (fun _ => rfl) h
theorem o_60 {c : ByteArray} {i : Nat} (h : Wn c i [60]) : Dc c i (.istore_n 1) 1 := dec0 (fun _ => rfl) h
theorem o_61 {c : ByteArray} {i : Nat} (h : Wn c i [61]) : Dc c i (.istore_n 2) 1 := dec0 (fun _ => rfl) h
theorem o_62 {c : ByteArray} {i : Nat} (h : Wn c i [62]) : Dc c i (.istore_n 3) 1 := dec0 (fun _ => rfl) h
theorem o_63 {c : ByteArray} {i : Nat} (h : Wn c i [63]) : Dc c i (.lstore_n 0) 1 := dec0 (fun _ => rfl) h
theorem o_64 {c : ByteArray} {i : Nat} (h : Wn c i [64]) : Dc c i (.lstore_n 1) 1 := dec0 (fun _ => rfl) h
theorem o_65 {c : ByteArray} {i : Nat} (h : Wn c i [65]) : Dc c i (.lstore_n 2) 1 := dec0 (fun _ => rfl) h
theorem o_66 {c : ByteArray} {i : Nat} (h : Wn c i [66]) : Dc c i (.lstore_n 3) 1 := dec0 (fun _ => rfl) h
theorem o_75 {c : ByteArray} {i : Nat} (h : Wn c i [75]) : Dc c i (.astore_n 0) 1 := dec0 (fun _ => rfl) h
theorem o_76 {c : ByteArray} {i : Nat} (h : Wn c i [76]) : Dc c i (.astore_n 1) 1 := dec0 (fun _ => rfl) h
theorem o_77 {c : ByteArray} {i : Nat} (h : Wn c i [77]) : Dc c i (.astore_n 2) 1 := dec0 (fun _ => rfl) h
theorem o_78 {c : ByteArray} {i : Nat} (h : Wn c i [78]) : Dc c i (.astore_n 3) 1 := dec0 (fun _ => rfl) h
theorem o_79 {c : ByteArray} {i : Nat} (h : Wn c i [79]) : Dc c i (.iastore) 1 := dec0 (fun _ => rfl) h
theorem o_80 {c : ByteArray} {i : Nat} (h : Wn c i [80]) : Dc c i (.lastore) 1 := dec0 (fun _ => rfl) h
theorem o_83 {c : ByteArray} {i : Nat} (h : Wn c i [83]) : Dc c i (.aastore) 1 := dec0 (fun _ => rfl) h
theorem o_84 {c : ByteArray} {i : Nat} (h : Wn c i [84]) : Dc c i (.bastore) 1 := dec0 (fun _ => rfl) h
theorem o_85 {c : ByteArray} {i : Nat} (h : Wn c i [85]) : Dc c i (.castore) 1 := dec0 (fun _ => rfl) h
theorem o_87 {c : ByteArray} {i : Nat} (h : Wn c i [87]) : Dc c i (.pop) 1 := dec0 (fun _ => rfl) h
theorem o_88 {c : ByteArray} {i : Nat} (h : Wn c i [88]) : Dc c i (.pop2) 1 := dec0 (fun _ => rfl) h
theorem o_89 {c : ByteArray} {i : Nat} (h : Wn c i [89]) : Dc c i (.dup) 1 := dec0 (fun _ => rfl) h
theorem o_90 {c : ByteArray} {i : Nat} (h : Wn c i [90]) : Dc c i (.dup_x1) 1 := dec0 (fun _ => rfl) h
theorem o_91 {c : ByteArray} {i : Nat} (h : Wn c i [91]) : Dc c i (.dup_x2) 1 := dec0 (fun _ => rfl) h
theorem o_92 {c : ByteArray} {i : Nat} (h : Wn c i [92]) : Dc c i (.dup2) 1 := dec0 (fun _ => rfl) h
theorem o_96 {c : ByteArray} {i : Nat} (h : Wn c i [96]) : Dc c i (.iadd) 1 := dec0 (fun _ => rfl) h
theorem o_97 {c : ByteArray} {i : Nat} (h : Wn c i [97]) : Dc c i (.ladd) 1 := dec0 (fun _ => rfl) h
theorem o_100 {c : ByteArray} {i : Nat} (h : Wn c i [100]) : Dc c i (.isub) 1 := dec0 (fun _ => rfl) h
theorem o_101 {c : ByteArray} {i : Nat} (h : Wn c i [101]) : Dc c i (.lsub) 1 := dec0 (fun _ => rfl) h
theorem o_104 {c : ByteArray} {i : Nat} (h : Wn c i [104]) : Dc c i (.imul) 1 := dec0 (fun _ => rfl) h
theorem o_105 {c : ByteArray} {i : Nat} (h : Wn c i [105]) : Dc c i (.lmul) 1 := dec0 (fun _ => rfl) h
theorem o_108 {c : ByteArray} {i : Nat} (h : Wn c i [108]) : Dc c i (.idiv) 1 := dec0 (fun _ => rfl) h
theorem o_109 {c : ByteArray} {i : Nat} (h : Wn c i [109]) : Dc c i (.ldiv) 1 := dec0 (fun _ => rfl) h
theorem o_112 {c : ByteArray} {i : Nat} (h : Wn c i [112]) : Dc c i (.irem) 1 := dec0 (fun _ => rfl) h
theorem o_113 {c : ByteArray} {i : Nat} (h : Wn c i [113]) : Dc c i (.lrem) 1 := dec0 (fun _ => rfl) h
theorem o_116 {c : ByteArray} {i : Nat} (h : Wn c i [116]) : Dc c i (.ineg) 1 := dec0 (fun _ => rfl) h
theorem o_117 {c : ByteArray} {i : Nat} (h : Wn c i [117]) : Dc c i (.lneg) 1 := dec0 (fun _ => rfl) h
theorem o_120 {c : ByteArray} {i : Nat} (h : Wn c i [120]) : Dc c i (.ishl) 1 := dec0 (fun _ => rfl) h
theorem o_121 {c : ByteArray} {i : Nat} (h : Wn c i [121]) : Dc c i (.lshl) 1 := dec0 (fun _ => rfl) h
theorem o_122 {c : ByteArray} {i : Nat} (h : Wn c i [122]) : Dc c i (.ishr) 1 := dec0 (fun _ => rfl) h
theorem o_123 {c : ByteArray} {i : Nat} (h : Wn c i [123]) : Dc c i (.lshr) 1 := dec0 (fun _ => rfl) h
theorem o_124 {c : ByteArray} {i : Nat} (h : Wn c i [124]) : Dc c i (.iushr) 1 := dec0 (fun _ => rfl) h
theorem o_125 {c : ByteArray} {i : Nat} (h : Wn c i [125]) : Dc c i (.lushr) 1 := dec0 (fun _ => rfl) h
theorem o_126 {c : ByteArray} {i : Nat} (h : Wn c i [126]) : Dc c i (.iand) 1 := dec0 (fun _ => rfl) h
theorem o_127 {c : ByteArray} {i : Nat} (h : Wn c i [127]) : Dc c i (.land) 1 := dec0 (fun _ => rfl) h
theorem o_128 {c : ByteArray} {i : Nat} (h : Wn c i [128]) : Dc c i (.ior) 1 := dec0 (fun _ => rfl) h
theorem o_129 {c : ByteArray} {i : Nat} (h : Wn c i [129]) : Dc c i (.lor) 1 := dec0 (fun _ => rfl) h
theorem o_130 {c : ByteArray} {i : Nat} (h : Wn c i [130]) : Dc c i (.ixor) 1 := dec0 (fun _ => rfl) h
theorem o_131 {c : ByteArray} {i : Nat} (h : Wn c i [131]) : Dc c i (.lxor) 1 := dec0 (fun _ => rfl) h
theorem o_132 {c : ByteArray} {i : Nat} (a b : Nat) {v : Int} (hv : Jvm.ClassFile.Reader.signed 8 b = v) (h : Wn c i [132, a, b]) : Dc c i (.iinc a v) 3 := hv ▸ decI (fun a b => .iinc a b) (fun _ => rfl) h
theorem o_133 {c : ByteArray} {i : Nat} (h : Wn c i [133]) : Dc c i (.i2l) 1 := dec0 (fun _ => rfl) h
theorem o_136 {c : ByteArray} {i : Nat} (h : Wn c i [136]) : Dc c i (.l2i) 1 := dec0 (fun _ => rfl) h
theorem o_145 {c : ByteArray} {i : Nat} (h : Wn c i [145]) : Dc c i (.i2b) 1 := dec0 (fun _ => rfl) h
theorem o_146 {c : ByteArray} {i : Nat} (h : Wn c i [146]) : Dc c i (.i2c) 1 := dec0 (fun _ => rfl) h
theorem o_147 {c : ByteArray} {i : Nat} (h : Wn c i [147]) : Dc c i (.i2s) 1 := dec0 (fun _ => rfl) h
theorem o_148 {c : ByteArray} {i : Nat} (h : Wn c i [148]) : Dc c i (.lcmp) 1 := dec0 (fun _ => rfl) h
theorem o_153 {c : ByteArray} {i : Nat} (a b : Nat) {v : Int} (hv : Jvm.ClassFile.Reader.signed 16 (a * 256 + b) = v) (h : Wn c i [153, a, b]) : Dc c i (.ifCond .eq v) 3 := hv ▸ decN (n := 2) Jvm.ClassFile.Reader.s2 (fun a => .ifCond .eq a) (fun _ => rfl) h (s2_at (wn_hd h).2)
theorem o_154 {c : ByteArray} {i : Nat} (a b : Nat) {v : Int} (hv : Jvm.ClassFile.Reader.signed 16 (a * 256 + b) = v) (h : Wn c i [154, a, b]) : Dc c i (.ifCond .ne v) 3 := hv ▸ decN (n := 2) Jvm.ClassFile.Reader.s2 (fun a => .ifCond .ne a) (fun _ => rfl) h (s2_at (wn_hd h).2)
theorem o_155 {c : ByteArray} {i : Nat} (a b : Nat) {v : Int} (hv : Jvm.ClassFile.Reader.signed 16 (a * 256 + b) = v) (h : Wn c i [155, a, b]) : Dc c i (.ifCond .lt v) 3 := hv ▸ decN (n := 2) Jvm.ClassFile.Reader.s2 (fun a => .ifCond .lt a) (fun _ => rfl) h (s2_at (wn_hd h).2)
theorem o_156 {c : ByteArray} {i : Nat} (a b : Nat) {v : Int} (hv : Jvm.ClassFile.Reader.signed 16 (a * 256 + b) = v) (h : Wn c i [156, a, b]) : Dc c i (.ifCond .ge v) 3 := hv ▸ decN (n := 2) Jvm.ClassFile.Reader.s2 (fun a => .ifCond .ge a) (fun _ => rfl) h (s2_at (wn_hd h).2)
theorem o_157 {c : ByteArray} {i : Nat} (a b : Nat) {v : Int} (hv : Jvm.ClassFile.Reader.signed 16 (a * 256 + b) = v) (h : Wn c i [157, a, b]) : Dc c i (.ifCond .gt v) 3 := hv ▸ decN (n := 2) Jvm.ClassFile.Reader.s2 (fun a => .ifCond .gt a) (fun _ => rfl) h (s2_at (wn_hd h).2)
theorem o_158 {c : ByteArray} {i : Nat} (a b : Nat) {v : Int} (hv : Jvm.ClassFile.Reader.signed 16 (a * 256 + b) = v) (h : Wn c i [158, a, b]) : Dc c i (.ifCond .le v) 3 := hv ▸ decN (n := 2) Jvm.ClassFile.Reader.s2 (fun a => .ifCond .le a) (fun _ => rfl) h (s2_at (wn_hd h).2)
theorem o_159 {c : ByteArray} {i : Nat} (a b : Nat) {v : Int} (hv : Jvm.ClassFile.Reader.signed 16 (a * 256 + b) = v) (h : Wn c i [159, a, b]) : Dc c i (.if_icmp .eq v) 3 := hv ▸ decN (n := 2) Jvm.ClassFile.Reader.s2 (fun a => .if_icmp .eq a) (fun _ => rfl) h (s2_at (wn_hd h).2)
theorem o_160 {c : ByteArray} {i : Nat} (a b : Nat) {v : Int} (hv : Jvm.ClassFile.Reader.signed 16 (a * 256 + b) = v) (h : Wn c i [160, a, b]) : Dc c i (.if_icmp .ne v) 3 := hv ▸ decN (n := 2) Jvm.ClassFile.Reader.s2 (fun a => .if_icmp .ne a) (fun _ => rfl) h (s2_at (wn_hd h).2)
theorem o_161 {c : ByteArray} {i : Nat} (a b : Nat) {v : Int} (hv : Jvm.ClassFile.Reader.signed 16 (a * 256 + b) = v) (h : Wn c i [161, a, b]) : Dc c i (.if_icmp .lt v) 3 := hv ▸ decN (n := 2) Jvm.ClassFile.Reader.s2 (fun a => .if_icmp .lt a) (fun _ => rfl) h (s2_at (wn_hd h).2)
theorem o_162 {c : ByteArray} {i : Nat} (a b : Nat) {v : Int} (hv : Jvm.ClassFile.Reader.signed 16 (a * 256 + b) = v) (h : Wn c i [162, a, b]) : Dc c i (.if_icmp .ge v) 3 := hv ▸ decN (n := 2) Jvm.ClassFile.Reader.s2 (fun a => .if_icmp .ge a) (fun _ => rfl) h (s2_at (wn_hd h).2)
theorem o_163 {c : ByteArray} {i : Nat} (a b : Nat) {v : Int} (hv : Jvm.ClassFile.Reader.signed 16 (a * 256 + b) = v) (h : Wn c i [163, a, b]) : Dc c i (.if_icmp .gt v) 3 := hv ▸ decN (n := 2) Jvm.ClassFile.Reader.s2 (fun a => .if_icmp .gt a) (fun _ => rfl) h (s2_at (wn_hd h).2)
theorem o_164 {c : ByteArray} {i : Nat} (a b : Nat) {v : Int} (hv : Jvm.ClassFile.Reader.signed 16 (a * 256 + b) = v) (h : Wn c i [164, a, b]) : Dc c i (.if_icmp .le v) 3 := hv ▸ decN (n := 2) Jvm.ClassFile.Reader.s2 (fun a => .if_icmp .le a) (fun _ => rfl) h (s2_at (wn_hd h).2)
theorem o_165 {c : ByteArray} {i : Nat} (a b : Nat) {v : Int} (hv : Jvm.ClassFile.Reader.signed 16 (a * 256 + b) = v) (h : Wn c i [165, a, b]) : Dc c i (.if_acmp .eq v) 3 := hv ▸ decN (n := 2) Jvm.ClassFile.Reader.s2 (fun a => .if_acmp .eq a) (fun _ => rfl) h (s2_at (wn_hd h).2)
theorem o_166 {c : ByteArray} {i : Nat} (a b : Nat) {v : Int} (hv : Jvm.ClassFile.Reader.signed 16 (a * 256 + b) = v) (h : Wn c i [166, a, b]) : Dc c i (.if_acmp .ne v) 3 := hv ▸ decN (n := 2) Jvm.ClassFile.Reader.s2 (fun a => .if_acmp .ne a) (fun _ => rfl) h (s2_at (wn_hd h).2)
theorem o_167 {c : ByteArray} {i : Nat} (a b : Nat) {v : Int} (hv : Jvm.ClassFile.Reader.signed 16 (a * 256 + b) = v) (h : Wn c i [167, a, b]) : Dc c i (.goto v) 3 := hv ▸ decN (n := 2) Jvm.ClassFile.Reader.s2 (fun a => .goto a) (fun _ => rfl) h (s2_at (wn_hd h).2)
theorem o_172 {c : ByteArray} {i : Nat} (h : Wn c i [172]) : Dc c i (.ireturn) 1 := dec0 (fun _ => rfl) h
theorem o_173 {c : ByteArray} {i : Nat} (h : Wn c i [173]) : Dc c i (.lreturn) 1 := dec0 (fun _ => rfl) h
theorem o_176 {c : ByteArray} {i : Nat} (h : Wn c i [176]) : Dc c i (.areturn) 1 := dec0 (fun _ => rfl) h
theorem o_177 {c : ByteArray} {i : Nat} (h : Wn c i [177]) : Dc c i (.return_) 1 := dec0 (fun _ => rfl) h
theorem o_178 {c : ByteArray} {i : Nat} (a b : Nat) {v : Nat} (hv : a * 256 + b = v) (h : Wn c i [178, a, b]) : Dc c i (.getstatic v) 3 := hv ▸ decN (n := 2) Jvm.ClassFile.Reader.u2 (fun a => .getstatic a) (fun _ => rfl) h (u2_at (wn_hd h).2)
theorem o_179 {c : ByteArray} {i : Nat} (a b : Nat) {v : Nat} (hv : a * 256 + b = v) (h : Wn c i [179, a, b]) : Dc c i (.putstatic v) 3 := hv ▸ decN (n := 2) Jvm.ClassFile.Reader.u2 (fun a => .putstatic a) (fun _ => rfl) h (u2_at (wn_hd h).2)
theorem o_180 {c : ByteArray} {i : Nat} (a b : Nat) {v : Nat} (hv : a * 256 + b = v) (h : Wn c i [180, a, b]) : Dc c i (.getfield v) 3 := hv ▸ decN (n := 2) Jvm.ClassFile.Reader.u2 (fun a => .getfield a) (fun _ => rfl) h (u2_at (wn_hd h).2)
theorem o_181 {c : ByteArray} {i : Nat} (a b : Nat) {v : Nat} (hv : a * 256 + b = v) (h : Wn c i [181, a, b]) : Dc c i (.putfield v) 3 := hv ▸ decN (n := 2) Jvm.ClassFile.Reader.u2 (fun a => .putfield a) (fun _ => rfl) h (u2_at (wn_hd h).2)
theorem o_182 {c : ByteArray} {i : Nat} (a b : Nat) {v : Nat} (hv : a * 256 + b = v) (h : Wn c i [182, a, b]) : Dc c i (.invokevirtual v) 3 := hv ▸ decN (n := 2) Jvm.ClassFile.Reader.u2 (fun a => .invokevirtual a) (fun _ => rfl) h (u2_at (wn_hd h).2)
theorem o_183 {c : ByteArray} {i : Nat} (a b : Nat) {v : Nat} (hv : a * 256 + b = v) (h : Wn c i [183, a, b]) : Dc c i (.invokespecial v) 3 := hv ▸ decN (n := 2) Jvm.ClassFile.Reader.u2 (fun a => .invokespecial a) (fun _ => rfl) h (u2_at (wn_hd h).2)
theorem o_184 {c : ByteArray} {i : Nat} (a b : Nat) {v : Nat} (hv : a * 256 + b = v) (h : Wn c i [184, a, b]) : Dc c i (.invokestatic v) 3 := hv ▸ decN (n := 2) Jvm.ClassFile.Reader.u2 (fun a => .invokestatic a) (fun _ => rfl) h (u2_at (wn_hd h).2)
theorem o_187 {c : ByteArray} {i : Nat} (a b : Nat) {v : Nat} (hv : a * 256 + b = v) (h : Wn c i [187, a, b]) : Dc c i (.new v) 3 := hv ▸ decN (n := 2) Jvm.ClassFile.Reader.u2 (fun a => .new a) (fun _ => rfl) h (u2_at (wn_hd h).2)
theorem o_189 {c : ByteArray} {i : Nat} (a b : Nat) {v : Nat} (hv : a * 256 + b = v) (h : Wn c i [189, a, b]) : Dc c i (.anewarray v) 3 := hv ▸ decN (n := 2) Jvm.ClassFile.Reader.u2 (fun a => .anewarray a) (fun _ => rfl) h (u2_at (wn_hd h).2)
theorem o_190 {c : ByteArray} {i : Nat} (h : Wn c i [190]) : Dc c i (.arraylength) 1 := dec0 (fun _ => rfl) h
theorem o_191 {c : ByteArray} {i : Nat} (h : Wn c i [191]) : Dc c i (.athrow) 1 := dec0 (fun _ => rfl) h
theorem o_192 {c : ByteArray} {i : Nat} (a b : Nat) {v : Nat} (hv : a * 256 + b = v) (h : Wn c i [192, a, b]) : Dc c i (.checkcast v) 3 := hv ▸ decN (n := 2) Jvm.ClassFile.Reader.u2 (fun a => .checkcast a) (fun _ => rfl) h (u2_at (wn_hd h).2)
theorem o_193 {c : ByteArray} {i : Nat} (a b : Nat) {v : Nat} (hv : a * 256 + b = v) (h : Wn c i [193, a, b]) : Dc c i (.instanceof v) 3 := hv ▸ decN (n := 2) Jvm.ClassFile.Reader.u2 (fun a => .instanceof a) (fun _ => rfl) h (u2_at (wn_hd h).2)
theorem o_198 {c : ByteArray} {i : Nat} (a b : Nat) {v : Int} (hv : Jvm.ClassFile.Reader.signed 16 (a * 256 + b) = v) (h : Wn c i [198, a, b]) : Dc c i (.ifnull v) 3 := hv ▸ decN (n := 2) Jvm.ClassFile.Reader.s2 (fun a => .ifnull a) (fun _ => rfl) h (s2_at (wn_hd h).2)
theorem o_199 {c : ByteArray} {i : Nat} (a b : Nat) {v : Int} (hv : Jvm.ClassFile.Reader.signed 16 (a * 256 + b) = v) (h : Wn c i [199, a, b]) : Dc c i (.ifnonnull v) 3 := hv ▸ decN (n := 2) Jvm.ClassFile.Reader.s2 (fun a => .ifnonnull a) (fun _ => rfl) h (s2_at (wn_hd h).2)
