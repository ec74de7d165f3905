/-! what decode gives, by walking a method's bytes once. qd_ names. -/
theorem qd_be {α β : Type} {r : Decoder α} {f : α → Decoder β} {code : ByteArray} {p q : Nat} {a : α} (h : r code p = .ok (a, q)) : (r >>= f) code p = f a code q := by
  show Except.bind (r code p) (fun x => f x.1 code x.2) = _
  rw [h]
  rfl
theorem qd_dec {code : ByteArray} {o n : Nat} {i : Instr} (h : Decoder.instr o code o = .ok (i, o + n)) : decode code o = .ok (i, n) := by
  show Except.bind (Decoder.instr o code o) (fun x => Except.ok (x.1, x.2 - o)) = _
  rw [h]
  show Except.ok (i, o + n - o) = _
  rw [Nat.add_sub_cancel_left]
theorem qd_u1 {code : ByteArray} {o : Nat} {b : UInt8} {t : List UInt8} (h : code.data.toList.drop o = b :: t) : (Jvm.ClassFile.Reader.u1 : Decoder Nat) code o = .ok (b.toNat, o + 1) ∧ code.data.toList.drop (o + 1) = t := by
  obtain ⟨⟨l⟩⟩ := code
  have h : l.drop o = b :: t := h
  have hl : o < l.length := by
    refine Nat.lt_of_not_le (fun hn => ?_)
    rw [List.drop_eq_nil_of_le hn] at h
    cases h
  rw [List.drop_eq_getElem_cons hl] at h
  injection h with h1 h2
  refine ⟨?_, h2⟩
  show (if hp : o < l.length then (do set (o + 1); pure (l[o]'hp).toNat : Decoder Nat) else throw _) _ o = _
  rw [dif_pos hl, h1]
  rfl
theorem qd_u2 {code : ByteArray} {p q r a b : Nat} (h1 : (Jvm.ClassFile.Reader.u1 : Decoder Nat) code p = .ok (a, q)) (h2 : (Jvm.ClassFile.Reader.u1 : Decoder Nat) code q = .ok (b, r)) : (Jvm.ClassFile.Reader.u2 : Decoder Nat) code p = .ok (a * 256 + b, r) := (qd_be h1).trans ((qd_be h2).trans rfl)
theorem qd_s1 {code : ByteArray} {p q a : Nat} (h : (Jvm.ClassFile.Reader.u1 : Decoder Nat) code p = .ok (a, q)) : (Jvm.ClassFile.Reader.s1 : Decoder Int) code p = .ok (Jvm.ClassFile.Reader.signed 8 a, q) := by
  show Except.bind ((Jvm.ClassFile.Reader.u1 : Decoder Nat) code p) (fun x => Except.ok (Jvm.ClassFile.Reader.signed 8 x.1, x.2)) = _
  rw [h]
  rfl
theorem qd_s2 {code : ByteArray} {p q r a b : Nat} (h1 : (Jvm.ClassFile.Reader.u1 : Decoder Nat) code p = .ok (a, q)) (h2 : (Jvm.ClassFile.Reader.u1 : Decoder Nat) code q = .ok (b, r)) : (Jvm.ClassFile.Reader.s2 : Decoder Int) code p = .ok (Jvm.ClassFile.Reader.signed 16 (a * 256 + b), r) := by
  show Except.bind ((Jvm.ClassFile.Reader.u2 : Decoder Nat) code p) (fun x => Except.ok (Jvm.ClassFile.Reader.signed 16 x.1, x.2)) = _
  rw [qd_u2 h1 h2]
  rfl
def qd_0 (op : Nat) : List UInt8 → Nat → Bool
  | a :: _, n => Nat.beq a.toNat op && Nat.beq n 1
  | _, _ => false
def qd_1 (op : Nat) (f : Nat → Bool) : List UInt8 → Nat → Bool
  | a :: b :: _, n => Nat.beq a.toNat op && (Nat.beq n 2 && f b.toNat)
  | _, _ => false
def qd_2 (op : Nat) (f : Nat → Nat → Bool) : List UInt8 → Nat → Bool
  | a :: b :: c :: _, n => Nat.beq a.toNat op && (Nat.beq n 3 && f b.toNat c.toNat)
  | _, _ => false
def qd_i (k : Int) : List UInt8 → Nat → Bool
  | a :: _, n => decide ((a.toNat : Int) = k + 3) && (Nat.ble 2 a.toNat && (Nat.ble a.toNat 8 && Nat.beq n 1))
  | _, _ => false
theorem qd_0i {op n o : Nat} {bs : List UInt8} {code : ByteArray} (h : qd_0 op bs n = true) (hb : code.data.toList.drop o = bs) : (Jvm.ClassFile.Reader.u1 : Decoder Nat) code o = .ok (op, o + 1) ∧ n = 1 := by
  cases bs with
  | nil => exact absurd h Bool.false_ne_true
  | cons a t =>
    have h : (Nat.beq a.toNat op && Nat.beq n 1) = true := h
    simp only [Bool.and_eq_true] at h
    have h1 := Nat.eq_of_beq_eq_true h.1
    exact ⟨h1 ▸ (qd_u1 hb).1, Nat.eq_of_beq_eq_true h.2⟩
theorem qd_1i {op n o : Nat} {f : Nat → Bool} {bs : List UInt8} {code : ByteArray} (h : qd_1 op f bs n = true) (hb : code.data.toList.drop o = bs) : ∃ b : Nat, (Jvm.ClassFile.Reader.u1 : Decoder Nat) code o = .ok (op, o + 1) ∧ (Jvm.ClassFile.Reader.u1 : Decoder Nat) code (o + 1) = .ok (b, o + 2) ∧ n = 2 ∧ f b = true := by
  match bs, h, hb with
  | a :: b :: t, h, hb =>
    have h : (Nat.beq a.toNat op && (Nat.beq n 2 && f b.toNat)) = true := h
    simp only [Bool.and_eq_true] at h
    have h1 := Nat.eq_of_beq_eq_true h.1
    have g := qd_u1 hb
    exact ⟨b.toNat, h1 ▸ g.1, (qd_u1 g.2).1, Nat.eq_of_beq_eq_true h.2.1, h.2.2⟩
  | [_], h, _ => exact absurd h Bool.false_ne_true
  | [], h, _ => exact absurd h Bool.false_ne_true
theorem qd_2i {op n o : Nat} {f : Nat → Nat → Bool} {bs : List UInt8} {code : ByteArray} (h : qd_2 op f bs n = true) (hb : code.data.toList.drop o = bs) : ∃ b c : Nat, (Jvm.ClassFile.Reader.u1 : Decoder Nat) code o = .ok (op, o + 1) ∧ (Jvm.ClassFile.Reader.u1 : Decoder Nat) code (o + 1) = .ok (b, o + 2) ∧ (Jvm.ClassFile.Reader.u1 : Decoder Nat) code (o + 2) = .ok (c, o + 3) ∧ n = 3 ∧ f b c = true := by
  match bs, h, hb with
  | a :: b :: c :: t, h, hb =>
    have h : (Nat.beq a.toNat op && (Nat.beq n 3 && f b.toNat c.toNat)) = true := h
    simp only [Bool.and_eq_true] at h
    have h1 := Nat.eq_of_beq_eq_true h.1
    have g := qd_u1 hb
    have g2 := qd_u1 g.2
    exact ⟨b.toNat, c.toNat, h1 ▸ g.1, g2.1, (qd_u1 g2.2).1, Nat.eq_of_beq_eq_true h.2.1, h.2.2⟩
  | [_, _], h, _ => exact absurd h Bool.false_ne_true
  | [_], h, _ => exact absurd h Bool.false_ne_true
  | [], h, _ => exact absurd h Bool.false_ne_true
def qd_cn : Jvm.ClassFile.Cond → Nat
  | .eq => 0
  | .ne => 1
  | .lt => 2
  | .ge => 3
  | .gt => 4
  | .le => 5
def qd_at : Jvm.ClassFile.ArrayType → Nat
  | .boolean => 4
  | .char => 5
  | .float => 6
  | .double => 7
  | .byte => 8
  | .short => 9
  | .int => 10
  | .long => 11
theorem qd_c_aaload {bs : List UInt8} {n : Nat} (h : qd_0 50 bs n = true) {code : ByteArray} {o : Nat} (hb : code.data.toList.drop o = bs) : decode code o = .ok (Instr.aaload, n) := by
  obtain ⟨h0, rfl⟩ := qd_0i h hb
  exact qd_dec ((qd_be h0).trans rfl)
theorem qd_c_aastore {bs : List UInt8} {n : Nat} (h : qd_0 83 bs n = true) {code : ByteArray} {o : Nat} (hb : code.data.toList.drop o = bs) : decode code o = .ok (Instr.aastore, n) := by
  obtain ⟨h0, rfl⟩ := qd_0i h hb
  exact qd_dec ((qd_be h0).trans rfl)
theorem qd_c_arraylength {bs : List UInt8} {n : Nat} (h : qd_0 190 bs n = true) {code : ByteArray} {o : Nat} (hb : code.data.toList.drop o = bs) : decode code o = .ok (Instr.arraylength, n) := by
  obtain ⟨h0, rfl⟩ := qd_0i h hb
  exact qd_dec ((qd_be h0).trans rfl)
theorem qd_c_athrow {bs : List UInt8} {n : Nat} (h : qd_0 191 bs n = true) {code : ByteArray} {o : Nat} (hb : code.data.toList.drop o = bs) : decode code o = .ok (Instr.athrow, n) := by
  obtain ⟨h0, rfl⟩ := qd_0i h hb
  exact qd_dec ((qd_be h0).trans rfl)
theorem qd_c_baload {bs : List UInt8} {n : Nat} (h : qd_0 51 bs n = true) {code : ByteArray} {o : Nat} (hb : code.data.toList.drop o = bs) : decode code o = .ok (Instr.baload, n) := by
  obtain ⟨h0, rfl⟩ := qd_0i h hb
  exact qd_dec ((qd_be h0).trans rfl)
theorem qd_c_bastore {bs : List UInt8} {n : Nat} (h : qd_0 84 bs n = true) {code : ByteArray} {o : Nat} (hb : code.data.toList.drop o = bs) : decode code o = .ok (Instr.bastore, n) := by
  obtain ⟨h0, rfl⟩ := qd_0i h hb
  exact qd_dec ((qd_be h0).trans rfl)
theorem qd_c_dup {bs : List UInt8} {n : Nat} (h : qd_0 89 bs n = true) {code : ByteArray} {o : Nat} (hb : code.data.toList.drop o = bs) : decode code o = .ok (Instr.dup, n) := by
  obtain ⟨h0, rfl⟩ := qd_0i h hb
  exact qd_dec ((qd_be h0).trans rfl)
theorem qd_c_dup2 {bs : List UInt8} {n : Nat} (h : qd_0 92 bs n = true) {code : ByteArray} {o : Nat} (hb : code.data.toList.drop o = bs) : decode code o = .ok (Instr.dup2, n) := by
  obtain ⟨h0, rfl⟩ := qd_0i h hb
  exact qd_dec ((qd_be h0).trans rfl)
theorem qd_c_dup_x1 {bs : List UInt8} {n : Nat} (h : qd_0 90 bs n = true) {code : ByteArray} {o : Nat} (hb : code.data.toList.drop o = bs) : decode code o = .ok (Instr.dup_x1, n) := by
  obtain ⟨h0, rfl⟩ := qd_0i h hb
  exact qd_dec ((qd_be h0).trans rfl)
theorem qd_c_i2b {bs : List UInt8} {n : Nat} (h : qd_0 145 bs n = true) {code : ByteArray} {o : Nat} (hb : code.data.toList.drop o = bs) : decode code o = .ok (Instr.i2b, n) := by
  obtain ⟨h0, rfl⟩ := qd_0i h hb
  exact qd_dec ((qd_be h0).trans rfl)
theorem qd_c_i2c {bs : List UInt8} {n : Nat} (h : qd_0 146 bs n = true) {code : ByteArray} {o : Nat} (hb : code.data.toList.drop o = bs) : decode code o = .ok (Instr.i2c, n) := by
  obtain ⟨h0, rfl⟩ := qd_0i h hb
  exact qd_dec ((qd_be h0).trans rfl)
theorem qd_c_i2l {bs : List UInt8} {n : Nat} (h : qd_0 133 bs n = true) {code : ByteArray} {o : Nat} (hb : code.data.toList.drop o = bs) : decode code o = .ok (Instr.i2l, n) := by
  obtain ⟨h0, rfl⟩ := qd_0i h hb
  exact qd_dec ((qd_be h0).trans rfl)
theorem qd_c_i2s {bs : List UInt8} {n : Nat} (h : qd_0 147 bs n = true) {code : ByteArray} {o : Nat} (hb : code.data.toList.drop o = bs) : decode code o = .ok (Instr.i2s, n) := by
  obtain ⟨h0, rfl⟩ := qd_0i h hb
  exact qd_dec ((qd_be h0).trans rfl)
theorem qd_c_iadd {bs : List UInt8} {n : Nat} (h : qd_0 96 bs n = true) {code : ByteArray} {o : Nat} (hb : code.data.toList.drop o = bs) : decode code o = .ok (Instr.iadd, n) := by
  obtain ⟨h0, rfl⟩ := qd_0i h hb
  exact qd_dec ((qd_be h0).trans rfl)
theorem qd_c_iaload {bs : List UInt8} {n : Nat} (h : qd_0 46 bs n = true) {code : ByteArray} {o : Nat} (hb : code.data.toList.drop o = bs) : decode code o = .ok (Instr.iaload, n) := by
  obtain ⟨h0, rfl⟩ := qd_0i h hb
  exact qd_dec ((qd_be h0).trans rfl)
theorem qd_c_iand {bs : List UInt8} {n : Nat} (h : qd_0 126 bs n = true) {code : ByteArray} {o : Nat} (hb : code.data.toList.drop o = bs) : decode code o = .ok (Instr.iand, n) := by
  obtain ⟨h0, rfl⟩ := qd_0i h hb
  exact qd_dec ((qd_be h0).trans rfl)
theorem qd_c_iastore {bs : List UInt8} {n : Nat} (h : qd_0 79 bs n = true) {code : ByteArray} {o : Nat} (hb : code.data.toList.drop o = bs) : decode code o = .ok (Instr.iastore, n) := by
  obtain ⟨h0, rfl⟩ := qd_0i h hb
  exact qd_dec ((qd_be h0).trans rfl)
theorem qd_c_idiv {bs : List UInt8} {n : Nat} (h : qd_0 108 bs n = true) {code : ByteArray} {o : Nat} (hb : code.data.toList.drop o = bs) : decode code o = .ok (Instr.idiv, n) := by
  obtain ⟨h0, rfl⟩ := qd_0i h hb
  exact qd_dec ((qd_be h0).trans rfl)
theorem qd_c_imul {bs : List UInt8} {n : Nat} (h : qd_0 104 bs n = true) {code : ByteArray} {o : Nat} (hb : code.data.toList.drop o = bs) : decode code o = .ok (Instr.imul, n) := by
  obtain ⟨h0, rfl⟩ := qd_0i h hb
  exact qd_dec ((qd_be h0).trans rfl)
theorem qd_c_ineg {bs : List UInt8} {n : Nat} (h : qd_0 116 bs n = true) {code : ByteArray} {o : Nat} (hb : code.data.toList.drop o = bs) : decode code o = .ok (Instr.ineg, n) := by
  obtain ⟨h0, rfl⟩ := qd_0i h hb
  exact qd_dec ((qd_be h0).trans rfl)
theorem qd_c_ior {bs : List UInt8} {n : Nat} (h : qd_0 128 bs n = true) {code : ByteArray} {o : Nat} (hb : code.data.toList.drop o = bs) : decode code o = .ok (Instr.ior, n) := by
  obtain ⟨h0, rfl⟩ := qd_0i h hb
  exact qd_dec ((qd_be h0).trans rfl)
theorem qd_c_irem {bs : List UInt8} {n : Nat} (h : qd_0 112 bs n = true) {code : ByteArray} {o : Nat} (hb : code.data.toList.drop o = bs) : decode code o = .ok (Instr.irem, n) := by
  obtain ⟨h0, rfl⟩ := qd_0i h hb
  exact qd_dec ((qd_be h0).trans rfl)
theorem qd_c_ireturn {bs : List UInt8} {n : Nat} (h : qd_0 172 bs n = true) {code : ByteArray} {o : Nat} (hb : code.data.toList.drop o = bs) : decode code o = .ok (Instr.ireturn, n) := by
  obtain ⟨h0, rfl⟩ := qd_0i h hb
  exact qd_dec ((qd_be h0).trans rfl)
theorem qd_c_ishl {bs : List UInt8} {n : Nat} (h : qd_0 120 bs n = true) {code : ByteArray} {o : Nat} (hb : code.data.toList.drop o = bs) : decode code o = .ok (Instr.ishl, n) := by
  obtain ⟨h0, rfl⟩ := qd_0i h hb
  exact qd_dec ((qd_be h0).trans rfl)
theorem qd_c_ishr {bs : List UInt8} {n : Nat} (h : qd_0 122 bs n = true) {code : ByteArray} {o : Nat} (hb : code.data.toList.drop o = bs) : decode code o = .ok (Instr.ishr, n) := by
  obtain ⟨h0, rfl⟩ := qd_0i h hb
  exact qd_dec ((qd_be h0).trans rfl)
theorem qd_c_isub {bs : List UInt8} {n : Nat} (h : qd_0 100 bs n = true) {code : ByteArray} {o : Nat} (hb : code.data.toList.drop o = bs) : decode code o = .ok (Instr.isub, n) := by
  obtain ⟨h0, rfl⟩ := qd_0i h hb
  exact qd_dec ((qd_be h0).trans rfl)
theorem qd_c_iushr {bs : List UInt8} {n : Nat} (h : qd_0 124 bs n = true) {code : ByteArray} {o : Nat} (hb : code.data.toList.drop o = bs) : decode code o = .ok (Instr.iushr, n) := by
  obtain ⟨h0, rfl⟩ := qd_0i h hb
  exact qd_dec ((qd_be h0).trans rfl)
theorem qd_c_ixor {bs : List UInt8} {n : Nat} (h : qd_0 130 bs n = true) {code : ByteArray} {o : Nat} (hb : code.data.toList.drop o = bs) : decode code o = .ok (Instr.ixor, n) := by
  obtain ⟨h0, rfl⟩ := qd_0i h hb
  exact qd_dec ((qd_be h0).trans rfl)
theorem qd_c_l2i {bs : List UInt8} {n : Nat} (h : qd_0 136 bs n = true) {code : ByteArray} {o : Nat} (hb : code.data.toList.drop o = bs) : decode code o = .ok (Instr.l2i, n) := by
  obtain ⟨h0, rfl⟩ := qd_0i h hb
  exact qd_dec ((qd_be h0).trans rfl)
theorem qd_c_ladd {bs : List UInt8} {n : Nat} (h : qd_0 97 bs n = true) {code : ByteArray} {o : Nat} (hb : code.data.toList.drop o = bs) : decode code o = .ok (Instr.ladd, n) := by
  obtain ⟨h0, rfl⟩ := qd_0i h hb
  exact qd_dec ((qd_be h0).trans rfl)
theorem qd_c_laload {bs : List UInt8} {n : Nat} (h : qd_0 47 bs n = true) {code : ByteArray} {o : Nat} (hb : code.data.toList.drop o = bs) : decode code o = .ok (Instr.laload, n) := by
  obtain ⟨h0, rfl⟩ := qd_0i h hb
  exact qd_dec ((qd_be h0).trans rfl)
theorem qd_c_land {bs : List UInt8} {n : Nat} (h : qd_0 127 bs n = true) {code : ByteArray} {o : Nat} (hb : code.data.toList.drop o = bs) : decode code o = .ok (Instr.land, n) := by
  obtain ⟨h0, rfl⟩ := qd_0i h hb
  exact qd_dec ((qd_be h0).trans rfl)
theorem qd_c_lastore {bs : List UInt8} {n : Nat} (h : qd_0 80 bs n = true) {code : ByteArray} {o : Nat} (hb : code.data.toList.drop o = bs) : decode code o = .ok (Instr.lastore, n) := by
  obtain ⟨h0, rfl⟩ := qd_0i h hb
  exact qd_dec ((qd_be h0).trans rfl)
theorem qd_c_lcmp {bs : List UInt8} {n : Nat} (h : qd_0 148 bs n = true) {code : ByteArray} {o : Nat} (hb : code.data.toList.drop o = bs) : decode code o = .ok (Instr.lcmp, n) := by
  obtain ⟨h0, rfl⟩ := qd_0i h hb
  exact qd_dec ((qd_be h0).trans rfl)
theorem qd_c_lmul {bs : List UInt8} {n : Nat} (h : qd_0 105 bs n = true) {code : ByteArray} {o : Nat} (hb : code.data.toList.drop o = bs) : decode code o = .ok (Instr.lmul, n) := by
  obtain ⟨h0, rfl⟩ := qd_0i h hb
  exact qd_dec ((qd_be h0).trans rfl)
theorem qd_c_lor {bs : List UInt8} {n : Nat} (h : qd_0 129 bs n = true) {code : ByteArray} {o : Nat} (hb : code.data.toList.drop o = bs) : decode code o = .ok (Instr.lor, n) := by
  obtain ⟨h0, rfl⟩ := qd_0i h hb
  exact qd_dec ((qd_be h0).trans rfl)
theorem qd_c_lreturn {bs : List UInt8} {n : Nat} (h : qd_0 173 bs n = true) {code : ByteArray} {o : Nat} (hb : code.data.toList.drop o = bs) : decode code o = .ok (Instr.lreturn, n) := by
  obtain ⟨h0, rfl⟩ := qd_0i h hb
  exact qd_dec ((qd_be h0).trans rfl)
theorem qd_c_lshl {bs : List UInt8} {n : Nat} (h : qd_0 121 bs n = true) {code : ByteArray} {o : Nat} (hb : code.data.toList.drop o = bs) : decode code o = .ok (Instr.lshl, n) := by
  obtain ⟨h0, rfl⟩ := qd_0i h hb
  exact qd_dec ((qd_be h0).trans rfl)
theorem qd_c_lshr {bs : List UInt8} {n : Nat} (h : qd_0 123 bs n = true) {code : ByteArray} {o : Nat} (hb : code.data.toList.drop o = bs) : decode code o = .ok (Instr.lshr, n) := by
  obtain ⟨h0, rfl⟩ := qd_0i h hb
  exact qd_dec ((qd_be h0).trans rfl)
theorem qd_c_lsub {bs : List UInt8} {n : Nat} (h : qd_0 101 bs n = true) {code : ByteArray} {o : Nat} (hb : code.data.toList.drop o = bs) : decode code o = .ok (Instr.lsub, n) := by
  obtain ⟨h0, rfl⟩ := qd_0i h hb
  exact qd_dec ((qd_be h0).trans rfl)
theorem qd_c_lushr {bs : List UInt8} {n : Nat} (h : qd_0 125 bs n = true) {code : ByteArray} {o : Nat} (hb : code.data.toList.drop o = bs) : decode code o = .ok (Instr.lushr, n) := by
  obtain ⟨h0, rfl⟩ := qd_0i h hb
  exact qd_dec ((qd_be h0).trans rfl)
theorem qd_c_lxor {bs : List UInt8} {n : Nat} (h : qd_0 131 bs n = true) {code : ByteArray} {o : Nat} (hb : code.data.toList.drop o = bs) : decode code o = .ok (Instr.lxor, n) := by
  obtain ⟨h0, rfl⟩ := qd_0i h hb
  exact qd_dec ((qd_be h0).trans rfl)
theorem qd_c_pop {bs : List UInt8} {n : Nat} (h : qd_0 87 bs n = true) {code : ByteArray} {o : Nat} (hb : code.data.toList.drop o = bs) : decode code o = .ok (Instr.pop, n) := by
  obtain ⟨h0, rfl⟩ := qd_0i h hb
  exact qd_dec ((qd_be h0).trans rfl)
theorem qd_c_pop2 {bs : List UInt8} {n : Nat} (h : qd_0 88 bs n = true) {code : ByteArray} {o : Nat} (hb : code.data.toList.drop o = bs) : decode code o = .ok (Instr.pop2, n) := by
  obtain ⟨h0, rfl⟩ := qd_0i h hb
  exact qd_dec ((qd_be h0).trans rfl)
theorem qd_c_return_ {bs : List UInt8} {n : Nat} (h : qd_0 177 bs n = true) {code : ByteArray} {o : Nat} (hb : code.data.toList.drop o = bs) : decode code o = .ok (Instr.return_, n) := by
  obtain ⟨h0, rfl⟩ := qd_0i h hb
  exact qd_dec ((qd_be h0).trans rfl)
theorem qd_c_aload_n (k : Fin 4) {bs : List UInt8} {n : Nat} (h : qd_0 (42 + k.val) bs n = true) {code : ByteArray} {o : Nat} (hb : code.data.toList.drop o = bs) : decode code o = .ok (Instr.aload_n k, n) := by
  obtain ⟨h0, rfl⟩ := qd_0i h hb
  obtain ⟨v, hv⟩ := k
  have hc : v = 0 ∨ v = 1 ∨ v = 2 ∨ v = 3 := by omega
  rcases hc with rfl | rfl | rfl | rfl
  · exact qd_dec ((qd_be (show (Jvm.ClassFile.Reader.u1 : Decoder Nat) code o = .ok (42, o + 1) from h0)).trans rfl)
  · exact qd_dec ((qd_be (show (Jvm.ClassFile.Reader.u1 : Decoder Nat) code o = .ok (43, o + 1) from h0)).trans rfl)
  · exact qd_dec ((qd_be (show (Jvm.ClassFile.Reader.u1 : Decoder Nat) code o = .ok (44, o + 1) from h0)).trans rfl)
  · exact qd_dec ((qd_be (show (Jvm.ClassFile.Reader.u1 : Decoder Nat) code o = .ok (45, o + 1) from h0)).trans rfl)
theorem qd_c_astore_n (k : Fin 4) {bs : List UInt8} {n : Nat} (h : qd_0 (75 + k.val) bs n = true) {code : ByteArray} {o : Nat} (hb : code.data.toList.drop o = bs) : decode code o = .ok (Instr.astore_n k, n) := by
  obtain ⟨h0, rfl⟩ := qd_0i h hb
  obtain ⟨v, hv⟩ := k
  have hc : v = 0 ∨ v = 1 ∨ v = 2 ∨ v = 3 := by omega
  rcases hc with rfl | rfl | rfl | rfl
  · exact qd_dec ((qd_be (show (Jvm.ClassFile.Reader.u1 : Decoder Nat) code o = .ok (75, o + 1) from h0)).trans rfl)
  · exact qd_dec ((qd_be (show (Jvm.ClassFile.Reader.u1 : Decoder Nat) code o = .ok (76, o + 1) from h0)).trans rfl)
  · exact qd_dec ((qd_be (show (Jvm.ClassFile.Reader.u1 : Decoder Nat) code o = .ok (77, o + 1) from h0)).trans rfl)
  · exact qd_dec ((qd_be (show (Jvm.ClassFile.Reader.u1 : Decoder Nat) code o = .ok (78, o + 1) from h0)).trans rfl)
theorem qd_c_iload_n (k : Fin 4) {bs : List UInt8} {n : Nat} (h : qd_0 (26 + k.val) bs n = true) {code : ByteArray} {o : Nat} (hb : code.data.toList.drop o = bs) : decode code o = .ok (Instr.iload_n k, n) := by
  obtain ⟨h0, rfl⟩ := qd_0i h hb
  obtain ⟨v, hv⟩ := k
  have hc : v = 0 ∨ v = 1 ∨ v = 2 ∨ v = 3 := by omega
  rcases hc with rfl | rfl | rfl | rfl
  · exact qd_dec ((qd_be (show (Jvm.ClassFile.Reader.u1 : Decoder Nat) code o = .ok (26, o + 1) from h0)).trans rfl)
  · exact qd_dec ((qd_be (show (Jvm.ClassFile.Reader.u1 : Decoder Nat) code o = .ok (27, o + 1) from h0)).trans rfl)
  · exact qd_dec ((qd_be (show (Jvm.ClassFile.Reader.u1 : Decoder Nat) code o = .ok (28, o + 1) from h0)).trans rfl)
  · exact qd_dec ((qd_be (show (Jvm.ClassFile.Reader.u1 : Decoder Nat) code o = .ok (29, o + 1) from h0)).trans rfl)
theorem qd_c_istore_n (k : Fin 4) {bs : List UInt8} {n : Nat} (h : qd_0 (59 + k.val) bs n = true) {code : ByteArray} {o : Nat} (hb : code.data.toList.drop o = bs) : decode code o = .ok (Instr.istore_n k, n) := by
  obtain ⟨h0, rfl⟩ := qd_0i h hb
  obtain ⟨v, hv⟩ := k
  have hc : v = 0 ∨ v = 1 ∨ v = 2 ∨ v = 3 := by omega
  rcases hc with rfl | rfl | rfl | rfl
  · exact qd_dec ((qd_be (show (Jvm.ClassFile.Reader.u1 : Decoder Nat) code o = .ok (59, o + 1) from h0)).trans rfl)
  · exact qd_dec ((qd_be (show (Jvm.ClassFile.Reader.u1 : Decoder Nat) code o = .ok (60, o + 1) from h0)).trans rfl)
  · exact qd_dec ((qd_be (show (Jvm.ClassFile.Reader.u1 : Decoder Nat) code o = .ok (61, o + 1) from h0)).trans rfl)
  · exact qd_dec ((qd_be (show (Jvm.ClassFile.Reader.u1 : Decoder Nat) code o = .ok (62, o + 1) from h0)).trans rfl)
theorem qd_c_lload_n (k : Fin 4) {bs : List UInt8} {n : Nat} (h : qd_0 (30 + k.val) bs n = true) {code : ByteArray} {o : Nat} (hb : code.data.toList.drop o = bs) : decode code o = .ok (Instr.lload_n k, n) := by
  obtain ⟨h0, rfl⟩ := qd_0i h hb
  obtain ⟨v, hv⟩ := k
  have hc : v = 0 ∨ v = 1 ∨ v = 2 ∨ v = 3 := by omega
  rcases hc with rfl | rfl | rfl | rfl
  · exact qd_dec ((qd_be (show (Jvm.ClassFile.Reader.u1 : Decoder Nat) code o = .ok (30, o + 1) from h0)).trans rfl)
  · exact qd_dec ((qd_be (show (Jvm.ClassFile.Reader.u1 : Decoder Nat) code o = .ok (31, o + 1) from h0)).trans rfl)
  · exact qd_dec ((qd_be (show (Jvm.ClassFile.Reader.u1 : Decoder Nat) code o = .ok (32, o + 1) from h0)).trans rfl)
  · exact qd_dec ((qd_be (show (Jvm.ClassFile.Reader.u1 : Decoder Nat) code o = .ok (33, o + 1) from h0)).trans rfl)
theorem qd_c_lstore_n (k : Fin 4) {bs : List UInt8} {n : Nat} (h : qd_0 (63 + k.val) bs n = true) {code : ByteArray} {o : Nat} (hb : code.data.toList.drop o = bs) : decode code o = .ok (Instr.lstore_n k, n) := by
  obtain ⟨h0, rfl⟩ := qd_0i h hb
  obtain ⟨v, hv⟩ := k
  have hc : v = 0 ∨ v = 1 ∨ v = 2 ∨ v = 3 := by omega
  rcases hc with rfl | rfl | rfl | rfl
  · exact qd_dec ((qd_be (show (Jvm.ClassFile.Reader.u1 : Decoder Nat) code o = .ok (63, o + 1) from h0)).trans rfl)
  · exact qd_dec ((qd_be (show (Jvm.ClassFile.Reader.u1 : Decoder Nat) code o = .ok (64, o + 1) from h0)).trans rfl)
  · exact qd_dec ((qd_be (show (Jvm.ClassFile.Reader.u1 : Decoder Nat) code o = .ok (65, o + 1) from h0)).trans rfl)
  · exact qd_dec ((qd_be (show (Jvm.ClassFile.Reader.u1 : Decoder Nat) code o = .ok (66, o + 1) from h0)).trans rfl)
theorem qd_c_lconst (k : Fin 2) {bs : List UInt8} {n : Nat} (h : qd_0 (9 + k.val) bs n = true) {code : ByteArray} {o : Nat} (hb : code.data.toList.drop o = bs) : decode code o = .ok (Instr.lconst k, n) := by
  obtain ⟨h0, rfl⟩ := qd_0i h hb
  obtain ⟨v, hv⟩ := k
  have hc : v = 0 ∨ v = 1 := by omega
  rcases hc with rfl | rfl
  · exact qd_dec ((qd_be (show (Jvm.ClassFile.Reader.u1 : Decoder Nat) code o = .ok (9, o + 1) from h0)).trans rfl)
  · exact qd_dec ((qd_be (show (Jvm.ClassFile.Reader.u1 : Decoder Nat) code o = .ok (10, o + 1) from h0)).trans rfl)
theorem qd_c_aload (k : Nat) {bs : List UInt8} {n : Nat} (h : (qd_1 25 (fun b => Nat.beq b k)) bs n = true) {code : ByteArray} {o : Nat} (hb : code.data.toList.drop o = bs) : decode code o = .ok (Instr.aload k, n) := by
  obtain ⟨b, h0, h1, rfl, hf⟩ := qd_1i h hb
  have e : b = k := Nat.eq_of_beq_eq_true hf
  subst e
  exact qd_dec ((qd_be h0).trans ((qd_be h1).trans rfl))
theorem qd_c_astore (k : Nat) {bs : List UInt8} {n : Nat} (h : (qd_1 58 (fun b => Nat.beq b k)) bs n = true) {code : ByteArray} {o : Nat} (hb : code.data.toList.drop o = bs) : decode code o = .ok (Instr.astore k, n) := by
  obtain ⟨b, h0, h1, rfl, hf⟩ := qd_1i h hb
  have e : b = k := Nat.eq_of_beq_eq_true hf
  subst e
  exact qd_dec ((qd_be h0).trans ((qd_be h1).trans rfl))
theorem qd_c_iload (k : Nat) {bs : List UInt8} {n : Nat} (h : (qd_1 21 (fun b => Nat.beq b k)) bs n = true) {code : ByteArray} {o : Nat} (hb : code.data.toList.drop o = bs) : decode code o = .ok (Instr.iload k, n) := by
  obtain ⟨b, h0, h1, rfl, hf⟩ := qd_1i h hb
  have e : b = k := Nat.eq_of_beq_eq_true hf
  subst e
  exact qd_dec ((qd_be h0).trans ((qd_be h1).trans rfl))
theorem qd_c_istore (k : Nat) {bs : List UInt8} {n : Nat} (h : (qd_1 54 (fun b => Nat.beq b k)) bs n = true) {code : ByteArray} {o : Nat} (hb : code.data.toList.drop o = bs) : decode code o = .ok (Instr.istore k, n) := by
  obtain ⟨b, h0, h1, rfl, hf⟩ := qd_1i h hb
  have e : b = k := Nat.eq_of_beq_eq_true hf
  subst e
  exact qd_dec ((qd_be h0).trans ((qd_be h1).trans rfl))
theorem qd_c_lload (k : Nat) {bs : List UInt8} {n : Nat} (h : (qd_1 22 (fun b => Nat.beq b k)) bs n = true) {code : ByteArray} {o : Nat} (hb : code.data.toList.drop o = bs) : decode code o = .ok (Instr.lload k, n) := by
  obtain ⟨b, h0, h1, rfl, hf⟩ := qd_1i h hb
  have e : b = k := Nat.eq_of_beq_eq_true hf
  subst e
  exact qd_dec ((qd_be h0).trans ((qd_be h1).trans rfl))
theorem qd_c_lstore (k : Nat) {bs : List UInt8} {n : Nat} (h : (qd_1 55 (fun b => Nat.beq b k)) bs n = true) {code : ByteArray} {o : Nat} (hb : code.data.toList.drop o = bs) : decode code o = .ok (Instr.lstore k, n) := by
  obtain ⟨b, h0, h1, rfl, hf⟩ := qd_1i h hb
  have e : b = k := Nat.eq_of_beq_eq_true hf
  subst e
  exact qd_dec ((qd_be h0).trans ((qd_be h1).trans rfl))
theorem qd_c_ldc (k : Nat) {bs : List UInt8} {n : Nat} (h : (qd_1 18 (fun b => Nat.beq b k)) bs n = true) {code : ByteArray} {o : Nat} (hb : code.data.toList.drop o = bs) : decode code o = .ok (Instr.ldc k, n) := by
  obtain ⟨b, h0, h1, rfl, hf⟩ := qd_1i h hb
  have e : b = k := Nat.eq_of_beq_eq_true hf
  subst e
  exact qd_dec ((qd_be h0).trans ((qd_be h1).trans rfl))
theorem qd_c_getfield (k : Nat) {bs : List UInt8} {n : Nat} (h : (qd_2 180 (fun b c => Nat.beq (b * 256 + c) k)) bs n = true) {code : ByteArray} {o : Nat} (hb : code.data.toList.drop o = bs) : decode code o = .ok (Instr.getfield k, n) := by
  obtain ⟨b, c, h0, h1, h2, rfl, hf⟩ := qd_2i h hb
  have e : b * 256 + c = k := Nat.eq_of_beq_eq_true hf
  subst e
  exact qd_dec ((qd_be h0).trans ((qd_be (qd_u2 h1 h2)).trans rfl))
theorem qd_c_putfield (k : Nat) {bs : List UInt8} {n : Nat} (h : (qd_2 181 (fun b c => Nat.beq (b * 256 + c) k)) bs n = true) {code : ByteArray} {o : Nat} (hb : code.data.toList.drop o = bs) : decode code o = .ok (Instr.putfield k, n) := by
  obtain ⟨b, c, h0, h1, h2, rfl, hf⟩ := qd_2i h hb
  have e : b * 256 + c = k := Nat.eq_of_beq_eq_true hf
  subst e
  exact qd_dec ((qd_be h0).trans ((qd_be (qd_u2 h1 h2)).trans rfl))
theorem qd_c_getstatic (k : Nat) {bs : List UInt8} {n : Nat} (h : (qd_2 178 (fun b c => Nat.beq (b * 256 + c) k)) bs n = true) {code : ByteArray} {o : Nat} (hb : code.data.toList.drop o = bs) : decode code o = .ok (Instr.getstatic k, n) := by
  obtain ⟨b, c, h0, h1, h2, rfl, hf⟩ := qd_2i h hb
  have e : b * 256 + c = k := Nat.eq_of_beq_eq_true hf
  subst e
  exact qd_dec ((qd_be h0).trans ((qd_be (qd_u2 h1 h2)).trans rfl))
theorem qd_c_invokespecial (k : Nat) {bs : List UInt8} {n : Nat} (h : (qd_2 183 (fun b c => Nat.beq (b * 256 + c) k)) bs n = true) {code : ByteArray} {o : Nat} (hb : code.data.toList.drop o = bs) : decode code o = .ok (Instr.invokespecial k, n) := by
  obtain ⟨b, c, h0, h1, h2, rfl, hf⟩ := qd_2i h hb
  have e : b * 256 + c = k := Nat.eq_of_beq_eq_true hf
  subst e
  exact qd_dec ((qd_be h0).trans ((qd_be (qd_u2 h1 h2)).trans rfl))
theorem qd_c_invokestatic (k : Nat) {bs : List UInt8} {n : Nat} (h : (qd_2 184 (fun b c => Nat.beq (b * 256 + c) k)) bs n = true) {code : ByteArray} {o : Nat} (hb : code.data.toList.drop o = bs) : decode code o = .ok (Instr.invokestatic k, n) := by
  obtain ⟨b, c, h0, h1, h2, rfl, hf⟩ := qd_2i h hb
  have e : b * 256 + c = k := Nat.eq_of_beq_eq_true hf
  subst e
  exact qd_dec ((qd_be h0).trans ((qd_be (qd_u2 h1 h2)).trans rfl))
theorem qd_c_invokevirtual (k : Nat) {bs : List UInt8} {n : Nat} (h : (qd_2 182 (fun b c => Nat.beq (b * 256 + c) k)) bs n = true) {code : ByteArray} {o : Nat} (hb : code.data.toList.drop o = bs) : decode code o = .ok (Instr.invokevirtual k, n) := by
  obtain ⟨b, c, h0, h1, h2, rfl, hf⟩ := qd_2i h hb
  have e : b * 256 + c = k := Nat.eq_of_beq_eq_true hf
  subst e
  exact qd_dec ((qd_be h0).trans ((qd_be (qd_u2 h1 h2)).trans rfl))
theorem qd_c_new (k : Nat) {bs : List UInt8} {n : Nat} (h : (qd_2 187 (fun b c => Nat.beq (b * 256 + c) k)) bs n = true) {code : ByteArray} {o : Nat} (hb : code.data.toList.drop o = bs) : decode code o = .ok (Instr.new k, n) := by
  obtain ⟨b, c, h0, h1, h2, rfl, hf⟩ := qd_2i h hb
  have e : b * 256 + c = k := Nat.eq_of_beq_eq_true hf
  subst e
  exact qd_dec ((qd_be h0).trans ((qd_be (qd_u2 h1 h2)).trans rfl))
theorem qd_c_anewarray (k : Nat) {bs : List UInt8} {n : Nat} (h : (qd_2 189 (fun b c => Nat.beq (b * 256 + c) k)) bs n = true) {code : ByteArray} {o : Nat} (hb : code.data.toList.drop o = bs) : decode code o = .ok (Instr.anewarray k, n) := by
  obtain ⟨b, c, h0, h1, h2, rfl, hf⟩ := qd_2i h hb
  have e : b * 256 + c = k := Nat.eq_of_beq_eq_true hf
  subst e
  exact qd_dec ((qd_be h0).trans ((qd_be (qd_u2 h1 h2)).trans rfl))
theorem qd_c_ldc_w (k : Nat) {bs : List UInt8} {n : Nat} (h : (qd_2 19 (fun b c => Nat.beq (b * 256 + c) k)) bs n = true) {code : ByteArray} {o : Nat} (hb : code.data.toList.drop o = bs) : decode code o = .ok (Instr.ldc_w k, n) := by
  obtain ⟨b, c, h0, h1, h2, rfl, hf⟩ := qd_2i h hb
  have e : b * 256 + c = k := Nat.eq_of_beq_eq_true hf
  subst e
  exact qd_dec ((qd_be h0).trans ((qd_be (qd_u2 h1 h2)).trans rfl))
theorem qd_c_ldc2_w (k : Nat) {bs : List UInt8} {n : Nat} (h : (qd_2 20 (fun b c => Nat.beq (b * 256 + c) k)) bs n = true) {code : ByteArray} {o : Nat} (hb : code.data.toList.drop o = bs) : decode code o = .ok (Instr.ldc2_w k, n) := by
  obtain ⟨b, c, h0, h1, h2, rfl, hf⟩ := qd_2i h hb
  have e : b * 256 + c = k := Nat.eq_of_beq_eq_true hf
  subst e
  exact qd_dec ((qd_be h0).trans ((qd_be (qd_u2 h1 h2)).trans rfl))
theorem qd_c_bipush (k : Int) {bs : List UInt8} {n : Nat} (h : (qd_1 16 (fun b => decide (Jvm.ClassFile.Reader.signed 8 b = k))) bs n = true) {code : ByteArray} {o : Nat} (hb : code.data.toList.drop o = bs) : decode code o = .ok (Instr.bipush k, n) := by
  obtain ⟨b, h0, h1, rfl, hf⟩ := qd_1i h hb
  have e : Jvm.ClassFile.Reader.signed 8 b = k := of_decide_eq_true hf
  subst e
  exact qd_dec ((qd_be h0).trans ((qd_be (qd_s1 h1)).trans rfl))
theorem qd_c_goto (k : Int) {bs : List UInt8} {n : Nat} (h : (qd_2 167 (fun b c => decide (Jvm.ClassFile.Reader.signed 16 (b * 256 + c) = k))) bs n = true) {code : ByteArray} {o : Nat} (hb : code.data.toList.drop o = bs) : decode code o = .ok (Instr.goto k, n) := by
  obtain ⟨b, c, h0, h1, h2, rfl, hf⟩ := qd_2i h hb
  have e : Jvm.ClassFile.Reader.signed 16 (b * 256 + c) = k := of_decide_eq_true hf
  subst e
  exact qd_dec ((qd_be h0).trans ((qd_be (qd_s2 h1 h2)).trans rfl))
theorem qd_c_sipush (k : Int) {bs : List UInt8} {n : Nat} (h : (qd_2 17 (fun b c => decide (Jvm.ClassFile.Reader.signed 16 (b * 256 + c) = k))) bs n = true) {code : ByteArray} {o : Nat} (hb : code.data.toList.drop o = bs) : decode code o = .ok (Instr.sipush k, n) := by
  obtain ⟨b, c, h0, h1, h2, rfl, hf⟩ := qd_2i h hb
  have e : Jvm.ClassFile.Reader.signed 16 (b * 256 + c) = k := of_decide_eq_true hf
  subst e
  exact qd_dec ((qd_be h0).trans ((qd_be (qd_s2 h1 h2)).trans rfl))
theorem qd_c_ifCond (j : Jvm.ClassFile.Cond) (k : Int) {bs : List UInt8} {n : Nat} (h : (qd_2 (153 + qd_cn j) (fun b c => decide (Jvm.ClassFile.Reader.signed 16 (b * 256 + c) = k))) bs n = true) {code : ByteArray} {o : Nat} (hb : code.data.toList.drop o = bs) : decode code o = .ok (Instr.ifCond j k, n) := by
  obtain ⟨b, c, h0, h1, h2, rfl, hf⟩ := qd_2i h hb
  have e : Jvm.ClassFile.Reader.signed 16 (b * 256 + c) = k := of_decide_eq_true hf
  subst e
  cases j with
  | eq => exact qd_dec ((qd_be (show (Jvm.ClassFile.Reader.u1 : Decoder Nat) code o = .ok (153, o + 1) from h0)).trans ((qd_be (qd_s2 h1 h2)).trans rfl))
  | ne => exact qd_dec ((qd_be (show (Jvm.ClassFile.Reader.u1 : Decoder Nat) code o = .ok (154, o + 1) from h0)).trans ((qd_be (qd_s2 h1 h2)).trans rfl))
  | lt => exact qd_dec ((qd_be (show (Jvm.ClassFile.Reader.u1 : Decoder Nat) code o = .ok (155, o + 1) from h0)).trans ((qd_be (qd_s2 h1 h2)).trans rfl))
  | ge => exact qd_dec ((qd_be (show (Jvm.ClassFile.Reader.u1 : Decoder Nat) code o = .ok (156, o + 1) from h0)).trans ((qd_be (qd_s2 h1 h2)).trans rfl))
  | gt => exact qd_dec ((qd_be (show (Jvm.ClassFile.Reader.u1 : Decoder Nat) code o = .ok (157, o + 1) from h0)).trans ((qd_be (qd_s2 h1 h2)).trans rfl))
  | le => exact qd_dec ((qd_be (show (Jvm.ClassFile.Reader.u1 : Decoder Nat) code o = .ok (158, o + 1) from h0)).trans ((qd_be (qd_s2 h1 h2)).trans rfl))
theorem qd_c_if_icmp (j : Jvm.ClassFile.Cond) (k : Int) {bs : List UInt8} {n : Nat} (h : (qd_2 (159 + qd_cn j) (fun b c => decide (Jvm.ClassFile.Reader.signed 16 (b * 256 + c) = k))) bs n = true) {code : ByteArray} {o : Nat} (hb : code.data.toList.drop o = bs) : decode code o = .ok (Instr.if_icmp j k, n) := by
  obtain ⟨b, c, h0, h1, h2, rfl, hf⟩ := qd_2i h hb
  have e : Jvm.ClassFile.Reader.signed 16 (b * 256 + c) = k := of_decide_eq_true hf
  subst e
  cases j with
  | eq => exact qd_dec ((qd_be (show (Jvm.ClassFile.Reader.u1 : Decoder Nat) code o = .ok (159, o + 1) from h0)).trans ((qd_be (qd_s2 h1 h2)).trans rfl))
  | ne => exact qd_dec ((qd_be (show (Jvm.ClassFile.Reader.u1 : Decoder Nat) code o = .ok (160, o + 1) from h0)).trans ((qd_be (qd_s2 h1 h2)).trans rfl))
  | lt => exact qd_dec ((qd_be (show (Jvm.ClassFile.Reader.u1 : Decoder Nat) code o = .ok (161, o + 1) from h0)).trans ((qd_be (qd_s2 h1 h2)).trans rfl))
  | ge => exact qd_dec ((qd_be (show (Jvm.ClassFile.Reader.u1 : Decoder Nat) code o = .ok (162, o + 1) from h0)).trans ((qd_be (qd_s2 h1 h2)).trans rfl))
  | gt => exact qd_dec ((qd_be (show (Jvm.ClassFile.Reader.u1 : Decoder Nat) code o = .ok (163, o + 1) from h0)).trans ((qd_be (qd_s2 h1 h2)).trans rfl))
  | le => exact qd_dec ((qd_be (show (Jvm.ClassFile.Reader.u1 : Decoder Nat) code o = .ok (164, o + 1) from h0)).trans ((qd_be (qd_s2 h1 h2)).trans rfl))
theorem qd_c_iinc (j : Nat) (k : Int) {bs : List UInt8} {n : Nat} (h : (qd_2 132 (fun b c => Nat.beq b j && decide (Jvm.ClassFile.Reader.signed 8 c = k))) bs n = true) {code : ByteArray} {o : Nat} (hb : code.data.toList.drop o = bs) : decode code o = .ok (Instr.iinc j k, n) := by
  obtain ⟨b, c, h0, h1, h2, rfl, hf⟩ := qd_2i h hb
  have hf : (Nat.beq b j && decide (Jvm.ClassFile.Reader.signed 8 c = k)) = true := hf
  simp only [Bool.and_eq_true] at hf
  have e1 : b = j := Nat.eq_of_beq_eq_true hf.1
  have e : Jvm.ClassFile.Reader.signed 8 c = k := of_decide_eq_true hf.2
  subst e1
  subst e
  exact qd_dec ((qd_be h0).trans ((qd_be h1).trans ((qd_be (qd_s1 h2)).trans rfl)))
theorem qd_c_newarray (k : Jvm.ClassFile.ArrayType) {bs : List UInt8} {n : Nat} (h : (qd_1 188 (fun b => Nat.beq b (qd_at k))) bs n = true) {code : ByteArray} {o : Nat} (hb : code.data.toList.drop o = bs) : decode code o = .ok (Instr.newarray k, n) := by
  obtain ⟨b, h0, h1, rfl, hf⟩ := qd_1i h hb
  have e : b = qd_at k := Nat.eq_of_beq_eq_true hf
  subst e
  cases k with
  | boolean => exact qd_dec ((qd_be h0).trans ((qd_be (show (Jvm.ClassFile.Reader.u1 : Decoder Nat) code (o + 1) = .ok (4, o + 2) from h1)).trans rfl))
  | char => exact qd_dec ((qd_be h0).trans ((qd_be (show (Jvm.ClassFile.Reader.u1 : Decoder Nat) code (o + 1) = .ok (5, o + 2) from h1)).trans rfl))
  | float => exact qd_dec ((qd_be h0).trans ((qd_be (show (Jvm.ClassFile.Reader.u1 : Decoder Nat) code (o + 1) = .ok (6, o + 2) from h1)).trans rfl))
  | double => exact qd_dec ((qd_be h0).trans ((qd_be (show (Jvm.ClassFile.Reader.u1 : Decoder Nat) code (o + 1) = .ok (7, o + 2) from h1)).trans rfl))
  | byte => exact qd_dec ((qd_be h0).trans ((qd_be (show (Jvm.ClassFile.Reader.u1 : Decoder Nat) code (o + 1) = .ok (8, o + 2) from h1)).trans rfl))
  | short => exact qd_dec ((qd_be h0).trans ((qd_be (show (Jvm.ClassFile.Reader.u1 : Decoder Nat) code (o + 1) = .ok (9, o + 2) from h1)).trans rfl))
  | int => exact qd_dec ((qd_be h0).trans ((qd_be (show (Jvm.ClassFile.Reader.u1 : Decoder Nat) code (o + 1) = .ok (10, o + 2) from h1)).trans rfl))
  | long => exact qd_dec ((qd_be h0).trans ((qd_be (show (Jvm.ClassFile.Reader.u1 : Decoder Nat) code (o + 1) = .ok (11, o + 2) from h1)).trans rfl))
theorem qd_c_iconst (k : Int) {bs : List UInt8} {n : Nat} (h : qd_i k bs n = true) {code : ByteArray} {o : Nat} (hb : code.data.toList.drop o = bs) : decode code o = .ok (Instr.iconst k, n) := by
  cases bs with
  | nil => exact absurd h Bool.false_ne_true
  | cons a t =>
    have h : (decide ((a.toNat : Int) = k + 3) && (Nat.ble 2 a.toNat && (Nat.ble a.toNat 8 && Nat.beq n 1))) = true := h
    simp only [Bool.and_eq_true, decide_eq_true_eq] at h
    obtain ⟨h1, h2, h3, h4⟩ := h
    have h0 := (qd_u1 hb).1
    have h2 := Nat.le_of_ble_eq_true h2
    have h3 := Nat.le_of_ble_eq_true h3
    have h4 : n = 1 := Nat.eq_of_beq_eq_true h4
    subst h4
    revert h0 h1 h2 h3
    generalize a.toNat = m
    intro h1 h0 h2 h3
    have hm : m = 2 ∨ m = 3 ∨ m = 4 ∨ m = 5 ∨ m = 6 ∨ m = 7 ∨ m = 8 := by omega
    rcases hm with rfl | rfl | rfl | rfl | rfl | rfl | rfl
    · have hk : k = (-1) := by omega
      subst hk
      exact qd_dec ((qd_be (show (Jvm.ClassFile.Reader.u1 : Decoder Nat) code o = .ok (2, o + 1) from h0)).trans rfl)
    · have hk : k = 0 := by omega
      subst hk
      exact qd_dec ((qd_be (show (Jvm.ClassFile.Reader.u1 : Decoder Nat) code o = .ok (3, o + 1) from h0)).trans rfl)
    · have hk : k = 1 := by omega
      subst hk
      exact qd_dec ((qd_be (show (Jvm.ClassFile.Reader.u1 : Decoder Nat) code o = .ok (4, o + 1) from h0)).trans rfl)
    · have hk : k = 2 := by omega
      subst hk
      exact qd_dec ((qd_be (show (Jvm.ClassFile.Reader.u1 : Decoder Nat) code o = .ok (5, o + 1) from h0)).trans rfl)
    · have hk : k = 3 := by omega
      subst hk
      exact qd_dec ((qd_be (show (Jvm.ClassFile.Reader.u1 : Decoder Nat) code o = .ok (6, o + 1) from h0)).trans rfl)
    · have hk : k = 4 := by omega
      subst hk
      exact qd_dec ((qd_be (show (Jvm.ClassFile.Reader.u1 : Decoder Nat) code o = .ok (7, o + 1) from h0)).trans rfl)
    · have hk : k = 5 := by omega
      subst hk
      exact qd_dec ((qd_be (show (Jvm.ClassFile.Reader.u1 : Decoder Nat) code o = .ok (8, o + 1) from h0)).trans rfl)
def qd_e (i : Instr) : List UInt8 → Nat → Bool := match i with
  | .aaload => qd_0 50
  | .aastore => qd_0 83
  | .arraylength => qd_0 190
  | .athrow => qd_0 191
  | .baload => qd_0 51
  | .bastore => qd_0 84
  | .dup => qd_0 89
  | .dup2 => qd_0 92
  | .dup_x1 => qd_0 90
  | .i2b => qd_0 145
  | .i2c => qd_0 146
  | .i2l => qd_0 133
  | .i2s => qd_0 147
  | .iadd => qd_0 96
  | .iaload => qd_0 46
  | .iand => qd_0 126
  | .iastore => qd_0 79
  | .idiv => qd_0 108
  | .imul => qd_0 104
  | .ineg => qd_0 116
  | .ior => qd_0 128
  | .irem => qd_0 112
  | .ireturn => qd_0 172
  | .ishl => qd_0 120
  | .ishr => qd_0 122
  | .isub => qd_0 100
  | .iushr => qd_0 124
  | .ixor => qd_0 130
  | .l2i => qd_0 136
  | .ladd => qd_0 97
  | .laload => qd_0 47
  | .land => qd_0 127
  | .lastore => qd_0 80
  | .lcmp => qd_0 148
  | .lmul => qd_0 105
  | .lor => qd_0 129
  | .lreturn => qd_0 173
  | .lshl => qd_0 121
  | .lshr => qd_0 123
  | .lsub => qd_0 101
  | .lushr => qd_0 125
  | .lxor => qd_0 131
  | .pop => qd_0 87
  | .pop2 => qd_0 88
  | .return_ => qd_0 177
  | .aload_n k => qd_0 (42 + k.val)
  | .astore_n k => qd_0 (75 + k.val)
  | .iload_n k => qd_0 (26 + k.val)
  | .istore_n k => qd_0 (59 + k.val)
  | .lload_n k => qd_0 (30 + k.val)
  | .lstore_n k => qd_0 (63 + k.val)
  | .lconst k => qd_0 (9 + k.val)
  | .aload k => qd_1 25 (fun b => Nat.beq b k)
  | .astore k => qd_1 58 (fun b => Nat.beq b k)
  | .iload k => qd_1 21 (fun b => Nat.beq b k)
  | .istore k => qd_1 54 (fun b => Nat.beq b k)
  | .lload k => qd_1 22 (fun b => Nat.beq b k)
  | .lstore k => qd_1 55 (fun b => Nat.beq b k)
  | .ldc k => qd_1 18 (fun b => Nat.beq b k)
  | .getfield k => qd_2 180 (fun b c => Nat.beq (b * 256 + c) k)
  | .putfield k => qd_2 181 (fun b c => Nat.beq (b * 256 + c) k)
  | .getstatic k => qd_2 178 (fun b c => Nat.beq (b * 256 + c) k)
  | .invokespecial k => qd_2 183 (fun b c => Nat.beq (b * 256 + c) k)
  | .invokestatic k => qd_2 184 (fun b c => Nat.beq (b * 256 + c) k)
  | .invokevirtual k => qd_2 182 (fun b c => Nat.beq (b * 256 + c) k)
  | .new k => qd_2 187 (fun b c => Nat.beq (b * 256 + c) k)
  | .anewarray k => qd_2 189 (fun b c => Nat.beq (b * 256 + c) k)
  | .ldc_w k => qd_2 19 (fun b c => Nat.beq (b * 256 + c) k)
  | .ldc2_w k => qd_2 20 (fun b c => Nat.beq (b * 256 + c) k)
  | .bipush k => qd_1 16 (fun b => decide (Jvm.ClassFile.Reader.signed 8 b = k))
  | .goto k => qd_2 167 (fun b c => decide (Jvm.ClassFile.Reader.signed 16 (b * 256 + c) = k))
  | .sipush k => qd_2 17 (fun b c => decide (Jvm.ClassFile.Reader.signed 16 (b * 256 + c) = k))
  | .ifCond j k => qd_2 (153 + qd_cn j) (fun b c => decide (Jvm.ClassFile.Reader.signed 16 (b * 256 + c) = k))
  | .if_icmp j k => qd_2 (159 + qd_cn j) (fun b c => decide (Jvm.ClassFile.Reader.signed 16 (b * 256 + c) = k))
  | .iinc j k => qd_2 132 (fun b c => Nat.beq b j && decide (Jvm.ClassFile.Reader.signed 8 c = k))
  | .newarray k => qd_1 188 (fun b => Nat.beq b (qd_at k))
  | .iconst k => qd_i k
  | _ => fun _ _ => false
theorem qd_es (i : Instr) : ∀ (bs : List UInt8) (n : Nat), qd_e i bs n = true → ∀ (code : ByteArray) (o : Nat), code.data.toList.drop o = bs → decode code o = .ok (i, n) := by
  cases i with
  | aaload => exact fun bs n h code o hb => qd_c_aaload h hb
  | aastore => exact fun bs n h code o hb => qd_c_aastore h hb
  | arraylength => exact fun bs n h code o hb => qd_c_arraylength h hb
  | athrow => exact fun bs n h code o hb => qd_c_athrow h hb
  | baload => exact fun bs n h code o hb => qd_c_baload h hb
  | bastore => exact fun bs n h code o hb => qd_c_bastore h hb
  | dup => exact fun bs n h code o hb => qd_c_dup h hb
  | dup2 => exact fun bs n h code o hb => qd_c_dup2 h hb
  | dup_x1 => exact fun bs n h code o hb => qd_c_dup_x1 h hb
  | i2b => exact fun bs n h code o hb => qd_c_i2b h hb
  | i2c => exact fun bs n h code o hb => qd_c_i2c h hb
  | i2l => exact fun bs n h code o hb => qd_c_i2l h hb
  | i2s => exact fun bs n h code o hb => qd_c_i2s h hb
  | iadd => exact fun bs n h code o hb => qd_c_iadd h hb
  | iaload => exact fun bs n h code o hb => qd_c_iaload h hb
  | iand => exact fun bs n h code o hb => qd_c_iand h hb
  | iastore => exact fun bs n h code o hb => qd_c_iastore h hb
  | idiv => exact fun bs n h code o hb => qd_c_idiv h hb
  | imul => exact fun bs n h code o hb => qd_c_imul h hb
  | ineg => exact fun bs n h code o hb => qd_c_ineg h hb
  | ior => exact fun bs n h code o hb => qd_c_ior h hb
  | irem => exact fun bs n h code o hb => qd_c_irem h hb
  | ireturn => exact fun bs n h code o hb => qd_c_ireturn h hb
  | ishl => exact fun bs n h code o hb => qd_c_ishl h hb
  | ishr => exact fun bs n h code o hb => qd_c_ishr h hb
  | isub => exact fun bs n h code o hb => qd_c_isub h hb
  | iushr => exact fun bs n h code o hb => qd_c_iushr h hb
  | ixor => exact fun bs n h code o hb => qd_c_ixor h hb
  | l2i => exact fun bs n h code o hb => qd_c_l2i h hb
  | ladd => exact fun bs n h code o hb => qd_c_ladd h hb
  | laload => exact fun bs n h code o hb => qd_c_laload h hb
  | land => exact fun bs n h code o hb => qd_c_land h hb
  | lastore => exact fun bs n h code o hb => qd_c_lastore h hb
  | lcmp => exact fun bs n h code o hb => qd_c_lcmp h hb
  | lmul => exact fun bs n h code o hb => qd_c_lmul h hb
  | lor => exact fun bs n h code o hb => qd_c_lor h hb
  | lreturn => exact fun bs n h code o hb => qd_c_lreturn h hb
  | lshl => exact fun bs n h code o hb => qd_c_lshl h hb
  | lshr => exact fun bs n h code o hb => qd_c_lshr h hb
  | lsub => exact fun bs n h code o hb => qd_c_lsub h hb
  | lushr => exact fun bs n h code o hb => qd_c_lushr h hb
  | lxor => exact fun bs n h code o hb => qd_c_lxor h hb
  | pop => exact fun bs n h code o hb => qd_c_pop h hb
  | pop2 => exact fun bs n h code o hb => qd_c_pop2 h hb
  | return_ => exact fun bs n h code o hb => qd_c_return_ h hb
  | aload_n k => exact fun bs n h code o hb => qd_c_aload_n k h hb
  | astore_n k => exact fun bs n h code o hb => qd_c_astore_n k h hb
  | iload_n k => exact fun bs n h code o hb => qd_c_iload_n k h hb
  | istore_n k => exact fun bs n h code o hb => qd_c_istore_n k h hb
  | lload_n k => exact fun bs n h code o hb => qd_c_lload_n k h hb
  | lstore_n k => exact fun bs n h code o hb => qd_c_lstore_n k h hb
  | lconst k => exact fun bs n h code o hb => qd_c_lconst k h hb
  | aload k => exact fun bs n h code o hb => qd_c_aload k h hb
  | astore k => exact fun bs n h code o hb => qd_c_astore k h hb
  | iload k => exact fun bs n h code o hb => qd_c_iload k h hb
  | istore k => exact fun bs n h code o hb => qd_c_istore k h hb
  | lload k => exact fun bs n h code o hb => qd_c_lload k h hb
  | lstore k => exact fun bs n h code o hb => qd_c_lstore k h hb
  | ldc k => exact fun bs n h code o hb => qd_c_ldc k h hb
  | getfield k => exact fun bs n h code o hb => qd_c_getfield k h hb
  | putfield k => exact fun bs n h code o hb => qd_c_putfield k h hb
  | getstatic k => exact fun bs n h code o hb => qd_c_getstatic k h hb
  | invokespecial k => exact fun bs n h code o hb => qd_c_invokespecial k h hb
  | invokestatic k => exact fun bs n h code o hb => qd_c_invokestatic k h hb
  | invokevirtual k => exact fun bs n h code o hb => qd_c_invokevirtual k h hb
  | new k => exact fun bs n h code o hb => qd_c_new k h hb
  | anewarray k => exact fun bs n h code o hb => qd_c_anewarray k h hb
  | ldc_w k => exact fun bs n h code o hb => qd_c_ldc_w k h hb
  | ldc2_w k => exact fun bs n h code o hb => qd_c_ldc2_w k h hb
  | bipush k => exact fun bs n h code o hb => qd_c_bipush k h hb
  | goto k => exact fun bs n h code o hb => qd_c_goto k h hb
  | sipush k => exact fun bs n h code o hb => qd_c_sipush k h hb
  | ifCond j k => exact fun bs n h code o hb => qd_c_ifCond j k h hb
  | if_icmp j k => exact fun bs n h code o hb => qd_c_if_icmp j k h hb
  | iinc j k => exact fun bs n h code o hb => qd_c_iinc j k h hb
  | newarray k => exact fun bs n h code o hb => qd_c_newarray k h hb
  | iconst k => exact fun bs n h code o hb => qd_c_iconst k h hb
  | _ => exact fun bs n h => absurd h Bool.false_ne_true
def qd_isw : Instr → Bool
  | .tableswitch _ _ _ _ => true
  | .lookupswitch _ _ => true
  | _ => false
def qd_sw (code : ByteArray) (q : qm_I) : Bool := qd_isw q.2.1 && decide (decode code q.1 = .ok (q.2.1, q.2.2.1))
def qd_ck (code : ByteArray) : qm_C → List UInt8 → Nat → Bool
  | [], _, _ => true
  | q :: l, bs, pc => Nat.beq q.1 pc && ((qd_e q.2.1 bs q.2.2.1 || qd_sw code q) && qd_ck code l (bs.drop q.2.2.1) (pc + q.2.2.1))
theorem qd_cks (code : ByteArray) : ∀ (l : qm_C) (bs : List UInt8) (pc : Nat), qd_ck code l bs pc = true → code.data.toList.drop pc = bs → ∀ q ∈ l, decode code q.1 = .ok (q.2.1, q.2.2.1)
  | [], _, _, _, _ => fun q hq => absurd hq List.not_mem_nil
  | q :: l, bs, pc, h, hb => by
    have h : (Nat.beq q.1 pc && ((qd_e q.2.1 bs q.2.2.1 || qd_sw code q) && qd_ck code l (bs.drop q.2.2.1) (pc + q.2.2.1))) = true := h
    simp only [Bool.and_eq_true, Bool.or_eq_true] at h
    obtain ⟨h1, h2, h3⟩ := h
    have h1 : q.1 = pc := Nat.eq_of_beq_eq_true h1
    refine List.forall_mem_cons.mpr ⟨?_, ?_⟩
    · rcases h2 with h2 | h2
      · rw [h1]
        exact qd_es _ _ _ h2 code pc hb
      · have h4 : (qd_isw q.2.1 && decide (decode code q.1 = .ok (q.2.1, q.2.2.1))) = true := h2
        rw [Bool.and_eq_true] at h4
        exact of_decide_eq_true h4.2
    · exact qd_cks code l _ _ h3 (by rw [← hb, List.drop_drop])
theorem qd_cond {α : Type} {P : α → Prop} {b : Bool} {A B : List α} (hA : ∀ e ∈ A, P e) (hB : ∀ e ∈ B, P e) : ∀ e ∈ (bif b then A else B), P e := by
  cases b
  · exact hB
  · exact hA
