/-! THE SMALL MACHINE: the same instructions over cells that are told by their places; what it does is a function of numbers and lists. qm_ names. -/
abbrev qm_E : Type := (FieldType × vp_A) ⊕ (Nat × List Value)
abbrev qm_W : Type := List qm_E
abbrev qm_L : Type := List (Nat × Value)
abbrev qm_I : Type := Nat × Instr × Nat × Nat × Nat × Nat × Value
abbrev qm_C : Type := List qm_I
/-- what lies outside: cells that nobody writes (places 0 to 15), and a static that is only carried -/
abbrev qm_X : Type := (Nat → Option qm_E) × Value
abbrev qm_S : Type := Nat × qm_L × List Value × qm_W × Nat × Nat
def qm_cell (X : qm_X) (w : qm_W) (a : Nat) : Option qm_E := if a < 16 then X.1 a else w[a - 16]?
def qm_get (l : qm_L) (i : Nat) : Option Value := (l.find? (fun q => q.1 == i)).map (fun q => q.2)
def qm_put1 (l : qm_L) (i : Nat) (v : Value) : qm_L := (i, v) :: l.filter (fun q => !(q.1 == i) && !(q.1 + 1 == i && q.2.category == 2))
def qm_put2 (l : qm_L) (i : Nat) (v : Value) : qm_L := (i, v) :: l.filter (fun q => !(q.1 == i) && (!(q.1 == i + 1) && !(q.1 + 1 == i && q.2.category == 2)))
def qm_fetch : qm_C → Nat → Option qm_I
  | [], _ => none
  | q :: cd, pc => bif Nat.beq q.1 pc then some q else qm_fetch cd pc
theorem qm_fetch_eq : ∀ (cd : qm_C) (pc : Nat), qm_fetch cd pc = cd.find? (fun q => q.1 == pc)
  | [], _ => rfl
  | q :: cd, pc => by
    show (bif Nat.beq q.1 pc then some q else qm_fetch cd pc) = _
    cases h : Nat.beq q.1 pc
    · have hn : ¬ q.1 = pc := fun e => by
        rw [e, Nat.beq_refl] at h
        cases h
      exact (qm_fetch_eq cd pc).trans (List.find?_cons_of_neg (by simpa using hn)).symm
    · have e : q.1 = pc := Nat.eq_of_beq_eq_true h
      exact (List.find?_cons_of_pos (by simpa using e)).symm
def qm_go (pc : Nat) (ls : qm_L) (st : List Value) (w : qm_W) (c n : Nat) : Option qm_S := some (pc, ls, st, w, c, n)
def qm_to (pc : Nat) (off : Int) : Option Nat := if 0 ≤ (pc : Int) + off then some ((pc : Int) + off).toNat else none
def qm_jump (pc : Nat) (off : Int) (ls : qm_L) (st : List Value) (w : qm_W) (c n : Nat) : Option qm_S := (qm_to pc off).bind fun t => qm_go t ls st w c n
def qm_cond (k : ClassFile.Cond) (x y : Int32) : Bool := match k with
  | .eq => decide (x = y)
  | .ne => decide (¬ x = y)
  | .lt => decide (x < y)
  | .ge => decide (y ≤ x)
  | .gt => decide (y < x)
  | .le => decide (x ≤ y)
def qm_sum (st : List Value) : Nat := (st.map fun v => v.category).sum
def qm_fitb (ty : FieldType) (v : Value) : Bool := decide (narrow ty v = v) && fits ty v
def qm_in (i : Int32) (n : Nat) : Bool := decide (¬ i < 0) && decide (i.toNatClampNeg < n)
/-- the tables' part for a method: its number of locals, its return type, its name, its class, what it may make -/
abbrev qm_M : Type := Nat × Option FieldType × Bool × Nat × Nat × Nat
/-- one instruction -/
def qm_eff (X : qm_X) (T : Nat → Nat → String × String × String × Bool) (M : qm_M) (q : qm_I) (ls : qm_L) (st : List Value) (w : qm_W) (c n : Nat) : Option qm_S :=
  let pc := q.1
  let len := q.2.2.1
  let r1 := q.2.2.2.1
  let r2 := q.2.2.2.2.1
  let r3 := q.2.2.2.2.2.1
  let rv := q.2.2.2.2.2.2
  match q.2.1 with
  | .iconst k => if len = 1 then qm_go (pc + 1) ls (.int (Int32.ofInt k) :: st) w c n else none
  | .bipush k => if len = 2 then qm_go (pc + 2) ls (.int (Int8.ofInt k).toInt32 :: st) w c n else none
  | .sipush k => if len = 3 then qm_go (pc + 3) ls (.int (Int16.ofInt k).toInt32 :: st) w c n else none
  | .lconst k => if len = 1 then qm_go (pc + 1) ls (.long (Int64.ofNat (k : Nat)) :: st) w c n else none
  | .ldc _ => if len = 2 ∧ (r3 = 0 ∨ r3 = 1) then qm_go (pc + 2) ls (rv :: st) w c n else none
  | .ldc_w _ => if len = 3 ∧ r3 = 0 then qm_go (pc + 3) ls (rv :: st) w c n else none
  | .ldc2_w _ => if len = 3 ∧ r3 = 2 then qm_go (pc + 3) ls (rv :: st) w c n else none
  | .iload_n k => match qm_get ls (k : Nat) with | some (.int x) => if len = 1 then qm_go (pc + 1) ls (.int x :: st) w c n else none | _ => none
  | .iload k => match qm_get ls k with | some (.int x) => if len = 2 then qm_go (pc + 2) ls (.int x :: st) w c n else none | _ => none
  | .lload_n k => match qm_get ls (k : Nat) with | some (.long x) => if len = 1 then qm_go (pc + 1) ls (.long x :: st) w c n else none | _ => none
  | .lload k => match qm_get ls k with | some (.long x) => if len = 2 then qm_go (pc + 2) ls (.long x :: st) w c n else none | _ => none
  | .aload_n k => match qm_get ls (k : Nat) with | some (.ref x) => if len = 1 then qm_go (pc + 1) ls (.ref x :: st) w c n else none | _ => none
  | .aload k => match qm_get ls k with | some (.ref x) => if len = 2 then qm_go (pc + 2) ls (.ref x :: st) w c n else none | _ => none
  | .istore_n k => match st with | .int x :: s => if len = 1 ∧ (k : Nat) < M.1 then qm_go (pc + 1) (qm_put1 ls (k : Nat) (.int x)) s w c n else none | _ => none
  | .istore k => match st with | .int x :: s => if len = 2 ∧ k < M.1 then qm_go (pc + 2) (qm_put1 ls k (.int x)) s w c n else none | _ => none
  | .astore_n k => match st with | .ref x :: s => if len = 1 ∧ (k : Nat) < M.1 then qm_go (pc + 1) (qm_put1 ls (k : Nat) (.ref x)) s w c n else none | _ => none
  | .astore k => match st with | .ref x :: s => if len = 2 ∧ k < M.1 then qm_go (pc + 2) (qm_put1 ls k (.ref x)) s w c n else none | _ => none
  | .lstore_n k => match st with | .long x :: s => if len = 1 ∧ (k : Nat) + 1 < M.1 then qm_go (pc + 1) (qm_put2 ls (k : Nat) (.long x)) s w c n else none | _ => none
  | .lstore k => match st with | .long x :: s => if len = 2 ∧ k + 1 < M.1 then qm_go (pc + 2) (qm_put2 ls k (.long x)) s w c n else none | _ => none
  | .iinc k d => match qm_get ls k with | some (.int x) => if len = 3 ∧ k < M.1 then qm_go (pc + 3) (qm_put1 ls k (.int (x + Int32.ofInt d))) st w c n else none | _ => none
  | .iadd => match st with | .int y :: .int x :: s => if len = 1 then qm_go (pc + 1) ls (.int (x + y) :: s) w c n else none | _ => none
  | .isub => match st with | .int y :: .int x :: s => if len = 1 then qm_go (pc + 1) ls (.int (x - y) :: s) w c n else none | _ => none
  | .imul => match st with | .int y :: .int x :: s => if len = 1 then qm_go (pc + 1) ls (.int (x * y) :: s) w c n else none | _ => none
  | .iand => match st with | .int y :: .int x :: s => if len = 1 then qm_go (pc + 1) ls (.int (x &&& y) :: s) w c n else none | _ => none
  | .ior => match st with | .int y :: .int x :: s => if len = 1 then qm_go (pc + 1) ls (.int (x ||| y) :: s) w c n else none | _ => none
  | .ixor => match st with | .int y :: .int x :: s => if len = 1 then qm_go (pc + 1) ls (.int (x ^^^ y) :: s) w c n else none | _ => none
  | .idiv => match st with | .int y :: .int x :: s => if len = 1 ∧ ¬ y = 0 then qm_go (pc + 1) ls (.int (x / y) :: s) w c n else none | _ => none
  | .irem => match st with | .int y :: .int x :: s => if len = 1 ∧ ¬ y = 0 then qm_go (pc + 1) ls (.int (x - x / y * y) :: s) w c n else none | _ => none
  | .ineg => match st with | .int x :: s => if len = 1 then qm_go (pc + 1) ls (.int (-x) :: s) w c n else none | _ => none
  | .ladd => match st with | .long y :: .long x :: s => if len = 1 then qm_go (pc + 1) ls (.long (x + y) :: s) w c n else none | _ => none
  | .lsub => match st with | .long y :: .long x :: s => if len = 1 then qm_go (pc + 1) ls (.long (x - y) :: s) w c n else none | _ => none
  | .lmul => match st with | .long y :: .long x :: s => if len = 1 then qm_go (pc + 1) ls (.long (x * y) :: s) w c n else none | _ => none
  | .land => match st with | .long y :: .long x :: s => if len = 1 then qm_go (pc + 1) ls (.long (x &&& y) :: s) w c n else none | _ => none
  | .lor => match st with | .long y :: .long x :: s => if len = 1 then qm_go (pc + 1) ls (.long (x ||| y) :: s) w c n else none | _ => none
  | .lxor => match st with | .long y :: .long x :: s => if len = 1 then qm_go (pc + 1) ls (.long (x ^^^ y) :: s) w c n else none | _ => none
  | .ishl => match st with | .int y :: .int x :: s => if len = 1 then qm_go (pc + 1) ls (.int (x <<< (y &&& 31)) :: s) w c n else none | _ => none
  | .ishr => match st with | .int y :: .int x :: s => if len = 1 then qm_go (pc + 1) ls (.int (x >>> (y &&& 31)) :: s) w c n else none | _ => none
  | .iushr => match st with | .int y :: .int x :: s => if len = 1 then qm_go (pc + 1) ls (.int (x.toUInt32 >>> (y.toUInt32 &&& Int32.toUInt32 31)).toInt32 :: s) w c n else none | _ => none
  | .lshl => match st with | .int y :: .long x :: s => if len = 1 then qm_go (pc + 1) ls (.long (x <<< (y.toInt64 &&& 63)) :: s) w c n else none | _ => none
  | .lshr => match st with | .int y :: .long x :: s => if len = 1 then qm_go (pc + 1) ls (.long (x >>> (y.toInt64 &&& 63)) :: s) w c n else none | _ => none
  | .lushr => match st with | .int y :: .long x :: s => if len = 1 then qm_go (pc + 1) ls (.long (x.toUInt64 >>> (y.toInt64.toUInt64 &&& Int64.toUInt64 63)).toInt64 :: s) w c n else none | _ => none
  | .lcmp => match st with | .long y :: .long x :: s => if len = 1 then qm_go (pc + 1) ls (.int (lg_cmp x y) :: s) w c n else none | _ => none
  | .i2l => match st with | .int x :: s => if len = 1 then qm_go (pc + 1) ls (.long x.toInt64 :: s) w c n else none | _ => none
  | .l2i => match st with | .long x :: s => if len = 1 then qm_go (pc + 1) ls (.int x.toInt32 :: s) w c n else none | _ => none
  | .i2b => match st with | .int x :: s => if len = 1 then qm_go (pc + 1) ls (.int x.toInt8.toInt32 :: s) w c n else none | _ => none
  | .i2s => match st with | .int x :: s => if len = 1 then qm_go (pc + 1) ls (.int x.toInt16.toInt32 :: s) w c n else none | _ => none
  | .i2c => match st with | .int x :: s => if len = 1 then qm_go (pc + 1) ls (.int (x.toUInt32 % 65536).toInt32 :: s) w c n else none | _ => none
  | .dup => match st with | a :: s => if len = 1 ∧ a.category = 1 then qm_go (pc + 1) ls (a :: a :: s) w c n else none | _ => none
  | .dup_x1 => match st with | a :: b :: s => if len = 1 ∧ a.category = 1 ∧ b.category = 1 then qm_go (pc + 1) ls (a :: b :: a :: s) w c n else none | _ => none
  | .dup2 => match st with | a :: b :: s => if len = 1 ∧ a.category = 1 ∧ b.category = 1 then qm_go (pc + 1) ls (a :: b :: a :: b :: s) w c n else none | _ => none
  | .pop => match st with | a :: s => if len = 1 ∧ a.category = 1 then qm_go (pc + 1) ls s w c n else none | _ => none
  | .pop2 => match st with | a :: s => if len = 1 ∧ a.category = 2 then qm_go (pc + 1) ls s w c n else none | _ => none
  | .ifCond k off => match st with | .int x :: s => if len = 3 then (if qm_cond k x 0 then qm_jump pc off ls s w c n else qm_go (pc + 3) ls s w c n) else none | _ => none
  | .if_icmp k off => match st with | .int y :: .int x :: s => if len = 3 then (if qm_cond k x y then qm_jump pc off ls s w c n else qm_go (pc + 3) ls s w c n) else none | _ => none
  | .goto off => if len = 3 then qm_jump pc off ls st w c n else none
  | .tableswitch dflt lo hi offs => match st with | .int x :: s => (if x.toInt < lo ∨ hi < x.toInt then qm_jump pc dflt ls s w c n else (offs[(x.toInt - lo).toNat]?).bind fun off => qm_jump pc off ls s w c n) | _ => none
  | .lookupswitch dflt ps => match st with | .int x :: s => (if (ps.toList.zip (ps.toList.drop 1)).all (fun (a, next) => a.1 < next.1) = true then qm_jump pc (Op.lookupswitch.offset ps.toList dflt x.toInt) ls s w c n else none) | _ => none
  | .getfield _ => match st with | .ref a :: s => (match qm_cell X w a with | some (.inr (ci, fs)) => (match fs[r2]? with | some v => if len = 3 ∧ ci = r1 ∧ ¬ r3 = 9 then qm_go (pc + 3) ls (v :: s) w c n else none | _ => none) | _ => none) | _ => none
  | .putfield _ => match st with | v :: .ref a :: s => (match w[a - 16]? with | some (.inr (ci, fs)) => if len = 3 ∧ 16 ≤ a ∧ ci = r1 ∧ r3 = 0 ∧ r2 < fs.length ∧ ((T r1 r2).2.2.2 = true → M.2.2.1 = true ∧ M.2.2.2.1 = r1) ∧ (parseFieldDescriptor (T r1 r2).2.2.1).any (fun ty => qm_fitb ty v) = true then qm_go (pc + 3) ls s (w.set (a - 16) (.inr (ci, fs.set r2 v))) c n else none | _ => none) | _ => none
  | .getstatic _ => if len = 3 ∧ r3 = 0 then qm_go (pc + 3) ls (rv :: st) w c n else if len = 3 ∧ r3 = 1 then qm_go (pc + 3) ls (X.2 :: st) w c n else none
  | .iaload => match st with | .int i :: .ref a :: s => (match qm_cell X w a with | some (.inl (.int, m, .inl f)) => if len = 1 ∧ qm_in i m = true then qm_go (pc + 1) ls (.int (f i.toNatClampNeg) :: s) w c n else none | _ => none) | _ => none
  | .laload => match st with | .int i :: .ref a :: s => (match w[a - 16]? with | some (.inl (.long, m, .inr (.inl f))) => if len = 1 ∧ 16 ≤ a ∧ qm_in i m = true then qm_go (pc + 1) ls (.long (f i.toNatClampNeg) :: s) w c n else none | _ => none) | _ => none
  | .baload => match st with
      | .int i :: .ref a :: s => (match qm_cell X w a with
          | some (.inl (.boolean, m, .inl f)) => if len = 1 ∧ 16 ≤ a ∧ qm_in i m = true then qm_go (pc + 1) ls (.int (f i.toNatClampNeg) :: s) w c n else none
          | some (.inl (.byte, m, .inl f)) => if len = 1 ∧ a < 16 ∧ qm_in i m = true then qm_go (pc + 1) ls (.int (f i.toNatClampNeg) :: s) w c n else none
          | _ => none)
      | _ => none
  | .aaload => match st with | .int i :: .ref a :: s => (match w[a - 16]? with | some (.inl (.object C, m, .inr (.inr (.inr (.inr f))))) => if len = 1 ∧ 16 ≤ a ∧ C = "OneRoof$Custom" ∧ qm_in i m = true then qm_go (pc + 1) ls (va_rf (f i.toNatClampNeg) :: s) w c n else none | _ => none) | _ => none
  | .iastore => match st with | .int x :: .int i :: .ref a :: s => (match w[a - 16]? with | some (.inl (.int, m, .inl f)) => if len = 1 ∧ 16 ≤ a ∧ qm_in i m = true then qm_go (pc + 1) ls s (w.set (a - 16) (.inl (.int, m, .inl (upd f i.toNatClampNeg x)))) c n else none | _ => none) | _ => none
  | .lastore => match st with | .long x :: .int i :: .ref a :: s => (match w[a - 16]? with | some (.inl (.long, m, .inr (.inl f))) => if len = 1 ∧ 16 ≤ a ∧ qm_in i m = true then qm_go (pc + 1) ls s (w.set (a - 16) (.inl (.long, m, .inr (.inl (vp_updL f i.toNatClampNeg x))))) c n else none | _ => none) | _ => none
  | .bastore => match st with | .int x :: .int i :: .ref a :: s => (match w[a - 16]? with | some (.inl (.boolean, m, .inl f)) => if len = 1 ∧ 16 ≤ a ∧ qm_in i m = true then qm_go (pc + 1) ls s (w.set (a - 16) (.inl (.boolean, m, .inl (upd f i.toNatClampNeg (vp_nar .boolean x))))) c n else none | _ => none) | _ => none
  | .aastore => match st with | .ref v :: .int i :: .ref a :: s => (match w[a - 16]?, w[v - 16]? with | some (.inl (.object C, m, .inr (.inr (.inr (.inr f))))), some (.inr (cv, _)) => if len = 1 ∧ 16 ≤ a ∧ 16 ≤ v ∧ cv = 7 ∧ C = "OneRoof$Custom" ∧ qm_in i m = true then qm_go (pc + 1) ls s (w.set (a - 16) (.inl (.object C, m, .inr (.inr (.inr (.inr (va_up f i.toNatClampNeg (some v)))))))) c n else none | _, _ => none) | _ => none
  | .arraylength => match st with | .ref a :: s => (match qm_cell X w a with | some (.inl (ty, m, _)) => if len = 1 ∧ (a < 16 ∨ ty = .int ∨ ty = .long ∨ ty = .boolean ∨ ty = .object "OneRoof$Custom") then qm_go (pc + 1) ls (.int (Int32.ofNat m) :: s) w c n else none | _ => none) | _ => none
  | .newarray at_ => match st with
      | .int k :: s => if len = 2 ∧ ¬ k < 0 ∧ k.toNatClampNeg ≤ 1000000 ∧ c + 1 ≤ M.2.2.2.2.1 ∧ n + k.toNatClampNeg ≤ M.2.2.2.2.2 then (match at_ with
          | .int => qm_go (pc + 2) ls (.ref (16 + w.length) :: s) (w ++ [.inl (.int, k.toNatClampNeg, .inl (fun _ => 0))]) (c + 1) (n + k.toNatClampNeg)
          | .long => qm_go (pc + 2) ls (.ref (16 + w.length) :: s) (w ++ [.inl (.long, k.toNatClampNeg, .inr (.inl (fun _ => 0)))]) (c + 1) (n + k.toNatClampNeg)
          | .boolean => qm_go (pc + 2) ls (.ref (16 + w.length) :: s) (w ++ [.inl (.boolean, k.toNatClampNeg, .inl (fun _ => 0))]) (c + 1) (n + k.toNatClampNeg)
          | _ => none) else none
      | _ => none
  | .anewarray _ => match st with | .int k :: s => if len = 3 ∧ r1 = 7 ∧ r3 = 0 ∧ ¬ k < 0 ∧ k.toNatClampNeg ≤ 1000000 ∧ c + 1 ≤ M.2.2.2.2.1 ∧ n + k.toNatClampNeg ≤ M.2.2.2.2.2 then qm_go (pc + 3) ls (.ref (16 + w.length) :: s) (w ++ [.inl (.object "OneRoof$Custom", k.toNatClampNeg, .inr (.inr (.inr (.inr (fun _ => none)))))]) (c + 1) (n + k.toNatClampNeg) else none | _ => none
  | .new _ => if len = 3 ∧ r3 = 0 ∧ c + 1 ≤ M.2.2.2.2.1 ∧ n + ((qx_cl[r1]?).map (fun q => q.2.2)).getD 0 ≤ M.2.2.2.2.2 then (match qx_cl[r1]? with | some q => qm_go (pc + 3) ls (.ref (16 + w.length) :: st) (w ++ [.inr (r1, (List.range q.2.2).map (fun j => defaultValue (qx_ty r1 j)))]) (c + 1) (n + q.2.2) | none => none) else none
  | .invokestatic _ => match st with
        | .int k :: .int dp :: .ref a1 :: .int sp :: .ref a0 :: s => if len = 3 ∧ r3 = 7 ∧ 16 ≤ a0 ∧ 16 ≤ a1 ∧ ¬ sp < 0 ∧ ¬ dp < 0 ∧ ¬ k < 0 ∧ qm_sum s ≤ 8 then (match w[a0 - 16]?, w[a1 - 16]? with
            | some (.inl (.int, n0, .inl f)), some (.inl (.int, n1, .inl g)) => if sp.toNatClampNeg + k.toNatClampNeg ≤ n0 ∧ dp.toNatClampNeg + k.toNatClampNeg ≤ n1 then qm_go (pc + 3) ls s (w.set (a1 - 16) (.inl (.int, n1, .inl (va_cpy f g sp.toNatClampNeg dp.toNatClampNeg k.toNatClampNeg)))) c n else none
            | some (.inl (.long, n0, .inr (.inl f))), some (.inl (.long, n1, .inr (.inl g))) => if sp.toNatClampNeg + k.toNatClampNeg ≤ n0 ∧ dp.toNatClampNeg + k.toNatClampNeg ≤ n1 then qm_go (pc + 3) ls s (w.set (a1 - 16) (.inl (.long, n1, .inr (.inl (va_cpy f g sp.toNatClampNeg dp.toNatClampNeg k.toNatClampNeg))))) c n else none
            | _, _ => none) else none
        | _ => none
  | .invokespecial _ => match st with
      | .ref a :: s => if len = 3 ∧ r3 = 6 ∧ r2 = 0 ∧ qm_sum s ≤ 8 then qm_go (pc + 3) ls s w c n else none
      | _ => none
  | _ => none
/-- a call: which, with what, where it goes on, with what below -/
def qm_call (X : qm_X) (q : qm_I) (st : List Value) (w : qm_W) : Option (Nat × List Value × Nat × List Value) :=
  match q.2.1 with
  | .invokevirtual _ => match st[q.2.2.2.2.1]? with
      | some (.ref a) => (match qm_cell X w a with
          | some (.inr (ci, _)) => if q.2.2.1 = 3 ∧ (q.2.2.2.2.2.1 = 0 ∨ q.2.2.2.2.2.1 = 1) ∧ q.2.2.2.2.2.2 = .ref ci ∧ qm_sum (st.drop (q.2.2.2.2.1 + 1)) ≤ 8 then some (q.2.2.2.1, .ref a :: (st.take q.2.2.2.2.1).reverse, q.1 + 3, st.drop (q.2.2.2.2.1 + 1)) else none
          | _ => none)
      | _ => none
  | .invokestatic _ => if q.2.2.1 = 3 ∧ (q.2.2.2.2.2.1 = 2 ∨ q.2.2.2.2.2.1 = 3) ∧ q.2.2.2.2.1 ≤ st.length ∧ qm_sum (st.drop q.2.2.2.2.1) ≤ 8 then some (q.2.2.2.1, (st.take q.2.2.2.2.1).reverse, q.1 + 3, st.drop q.2.2.2.2.1) else none
  | .invokespecial _ => match st[q.2.2.2.2.1]? with
      | some (.ref a) => if q.2.2.1 = 3 ∧ (q.2.2.2.2.2.1 = 4 ∨ q.2.2.2.2.2.1 = 5) ∧ qm_sum (st.drop (q.2.2.2.2.1 + 1)) ≤ 8 then some (q.2.2.2.1, .ref a :: (st.take q.2.2.2.2.1).reverse, q.1 + 3, st.drop (q.2.2.2.2.1 + 1)) else none
      | _ => none
  | _ => none
/-- a return -/
def qm_retn (M : qm_M) (q : qm_I) (st : List Value) : Option (Option Value) :=
  match q.2.1 with
  | .ireturn => match st with | [.int x] => (match M.2.1 with | some ty => if q.2.2.1 = 1 ∧ narrow ty (.int x) = .int x then some (some (.int x)) else none | none => none) | _ => none
  | .lreturn => match st with | [.long x] => if q.2.2.1 = 1 ∧ M.2.1 = some .long then some (some (.long x)) else none | _ => none
  | .return_ => match st with | [] => if q.2.2.1 = 1 ∧ M.2.1 = none then some none else none | _ => none
  | _ => none
/-- one step of a method's code -/
def qm_step (C : Nat → List Value → qm_W → (Option Value → qm_W → Prop) → Prop) (B : Nat → Nat × Nat) (X : qm_X) (M : qm_M) (cd : qm_C) (Q : Option Value → qm_W → Prop) (P : qm_S → Prop) (s : qm_S) : Prop :=
  match qm_fetch cd s.1 with
  | none => False
  | some q => match qm_call X q s.2.2.1 s.2.2.2.1 with
    | some k => s.2.2.2.2.1 + (B k.1).1 ≤ M.2.2.2.2.1 ∧ s.2.2.2.2.2 + (B k.1).2 ≤ M.2.2.2.2.2 ∧ C k.1 k.2.1 s.2.2.2.1 (fun r w' => P (k.2.2.1, s.2.1, r.toList ++ k.2.2.2, w', s.2.2.2.2.1 + (B k.1).1, s.2.2.2.2.2 + (B k.1).2))
    | none => match qm_retn M q s.2.2.1 with
      | some r => s.2.2.2.2.1 ≤ M.2.2.2.2.1 ∧ s.2.2.2.2.2 ≤ M.2.2.2.2.2 ∧ Q r s.2.2.2.1
      | none => match qm_eff X qx_T M q s.2.1 s.2.2.1 s.2.2.2.1 s.2.2.2.2.1 s.2.2.2.2.2 with
        | none => False
        | some s' => P s'
/-- the least predicate that is closed under steps: from here the method returns, with Q -/
def qm_wp (C : Nat → List Value → qm_W → (Option Value → qm_W → Prop) → Prop) (B : Nat → Nat × Nat) (X : qm_X) (M : qm_M) (cd : qm_C) (Q : Option Value → qm_W → Prop) (s : qm_S) : Prop :=
  ∀ P : qm_S → Prop, (∀ s, qm_step C B X M cd Q P s → P s) → P s
def qm_mono (C : Nat → List Value → qm_W → (Option Value → qm_W → Prop) → Prop) : Prop := ∀ k as w (Q Q' : Option Value → qm_W → Prop), (∀ r w', Q r w' → Q' r w') → C k as w Q → C k as w Q'
theorem qm_step_mono {C B X M cd} {Q Q' : Option Value → qm_W → Prop} {P P' : qm_S → Prop} (hC : qm_mono C) (hQ : ∀ r w, Q r w → Q' r w) (hP : ∀ s, P s → P' s) {s : qm_S} (h : qm_step C B X M cd Q P s) : qm_step C B X M cd Q' P' s := by
  unfold qm_step at h ⊢
  split at h
  · exact h.elim
  · split at h
    · exact ⟨h.1, h.2.1, hC _ _ _ _ _ (fun r w' hh => hP _ hh) h.2.2⟩
    · split at h
      · exact ⟨h.1, h.2.1, hQ _ _ h.2.2⟩
      · split at h
        · exact h.elim
        · exact hP _ h
theorem qm_wp_go {C B X M cd} {Q : Option Value → qm_W → Prop} (hC : qm_mono C) {s : qm_S} (h : qm_step C B X M cd Q (qm_wp C B X M cd Q) s) : qm_wp C B X M cd Q s :=
  fun P hP => hP s (qm_step_mono hC (fun _ _ h => h) (fun s hs => hs P hP) h)
theorem qm_wp_mono {C B X M cd} {Q Q' : Option Value → qm_W → Prop} (hC : qm_mono C) (hQ : ∀ r w, Q r w → Q' r w) {s : qm_S} (h : qm_wp C B X M cd Q s) : qm_wp C B X M cd Q' s :=
  h (qm_wp C B X M cd Q') (fun _ hs => qm_wp_go hC (qm_step_mono hC hQ (fun _ h => h) hs))
def qm_ent (k : Nat) : Option (Nat × MethodName × ByteArray × Nat × Option FieldType × Nat × Nat × qm_C) := qx_mt[k]?
def qm_bud (k : Nat) : Nat × Nat := match qm_ent k with | some x => (x.2.2.2.2.2.1, x.2.2.2.2.2.2.1) | none => (0, 0)
def qm_M1 (x : Nat × MethodName × ByteArray × Nat × Option FieldType × Nat × Nat × qm_C) : qm_M := (x.2.2.2.1, x.2.2.2.2.1, decide (x.2.1.name = "<init>"), qx_oc x.1, x.2.2.2.2.2.1, x.2.2.2.2.2.2.1)
def qm_T (X : qm_X) : Nat → Nat → List Value → qm_W → (Option Value → qm_W → Prop) → Prop
  | 0, _, _, _, _ => False
  | d + 1, k, as, w, Q => match qm_ent k with
    | none => False
    | some x => (lg_sl as).length ≤ x.2.2.2.1 ∧ qm_wp (qm_T X d) qm_bud X (qm_M1 x) x.2.2.2.2.2.2.2 Q (0, lv_args 0 as, [], w, 0, 0)
theorem qm_T_mono (X : qm_X) : ∀ d, qm_mono (qm_T X d)
  | 0 => fun _ _ _ _ _ _ h => h
  | d + 1 => fun k as w Q Q' hQ h => by
    unfold qm_T at h ⊢
    split at h
    · exact h
    · exact ⟨h.1, qm_wp_mono (qm_T_mono X d) hQ h.2⟩
