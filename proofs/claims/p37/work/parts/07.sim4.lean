section QS4
variable {xa : Nat → Nat} {base : Nat} {cA : FieldType → ClassId} {D : va_G} {X : qm_X}
variable {p : Program} {l : Launch} {e : Env} {R : Room} {s : State} {m : MethodId} {args : Array Value} {below : List Frame} {meth : Method} {c : Code} {Z : State → Prop} {cc : ByteArray} {nL o : Nat}
theorem qs_getp {l : qm_L} {i : Nat} {v : Value} (hg : qm_get l i = some v) : ∃ j : Nat, (qs_tl xa base l)[j]? = some (i, qs_tv xa base v) := by
  unfold qm_get at hg
  cases hf : l.find? (fun q => q.1 == i) with
  | none => rw [hf] at hg; cases hg
  | some q =>
    rw [hf] at hg
    have h1 := List.find?_some hf
    have h2 := List.mem_of_find?_eq_some hf
    have h3 : q.1 = i := by simpa using h1
    cases hg
    subst h3
    exact List.getElem?_of_mem (List.mem_map.mpr ⟨q, h2, rfl⟩)
set_option maxHeartbeats 4000000 in
set_option maxRecDepth 100000 in
theorem qs_go (hall : qs_all) (hx : p.tables.exec = Jvm.exec) (hb : c.code = cc) (hml : c.maxLocals = nL) (hown : s.vm.findClass (qx_on o) = some m.cls) (hts : ∀ w ∈ qs_TB, w.before args s = true) (hK : va_K D qx_cl (qs_tys cA) s) (hX : qs_X xa base X s s.heap) {M : qm_M} (hM1 : M.1 = nL) (hinit : M.2.2.1 = true → meth.name = "<init>") (hMo : M.2.2.2.1 = qx_oc o) (hM5 : M.2.2.2.2.1 = R.cells) (hM6 : M.2.2.2.2.2 = R.slots) (hR1 : 1 ≤ R.frames) (hR2 : 60 ≤ R.locals)
    {pc len r1 r2 r3 : Nat} {i : Instr} {rv : Value} (hdec : decode cc pc = .ok (i, len)) (hok : qs_ok o (pc, i, len, r1, r2, r3, rv)) {ls : qm_L} {st : List Value} {w : qm_W} {cn n : Nat} {s' : qm_S} (hjmp : ∃ t : Nat, (pc : Int) + qs_off i = (t : Int))
    (hlen : ∀ (ty : FieldType) (mm : Nat) (f : (Nat → Int32) ⊕ (Nat → Int64) ⊕ (Nat → UInt32) ⊕ (Nat → UInt64) ⊕ (Nat → Option Nat)) (a : Nat) (r : List Value), qm_cell X w a = some (.inl (ty, mm, f)) → (a < 16 ∨ ty = .int ∨ ty = .long ∨ ty = .boolean ∨ ty = .object "OneRoof$Custom") → decode cc pc = .ok (.arraylength, 1) → ∀ (H : Heap) (locs : List Loc) (lsA : Array Slot), qs_R xa base cA D w H → va_S (qs_A base) s.heap H locs → W p l e R s m args below meth c H locs cn n Z (F0 m (pc + 1) lsA (.int (Int32.ofNat mm) :: r.map (qs_tv xa base))) → W p l e R s m args below meth c H locs cn n Z (F0 m pc lsA (qs_tv xa base (.ref a) :: r.map (qs_tv xa base))))
    (hf : qm_eff X qx_T M (pc, i, len, r1, r2, r3, rv) ls st w cn n = some s') (K : qs_P xa base cA D p l e R s m args below meth c Z nL s') : qs_P xa base cA D p l e R s m args below meth c Z nL (pc, ls, st, w, cn, n) := by
  cases i with
  | iconst k =>
    simp only [qm_eff, qm_go] at hf
    split at hf
    · rename_i hlen
      subst hlen
      cases hf
      intro H locs lsA hl hR hS
      exact lv_iconst hx hb hdec rfl (K H locs lsA hl hR hS)
    · cases hf
  | bipush k =>
    simp only [qm_eff, qm_go] at hf
    split at hf
    · rename_i hlen
      subst hlen
      cases hf
      intro H locs lsA hl hR hS
      exact lv_bipush hx hb hdec rfl (K H locs lsA hl hR hS)
    · cases hf
  | sipush k =>
    simp only [qm_eff, qm_go] at hf
    split at hf
    · rename_i hlen
      subst hlen
      cases hf
      intro H locs lsA hl hR hS
      exact lv_sipush hx hb hdec rfl (K H locs lsA hl hR hS)
    · cases hf
  | lconst k =>
    simp only [qm_eff, qm_go] at hf
    split at hf
    · rename_i hlen
      subst hlen
      cases hf
      intro H locs lsA hl hR hS
      exact lv_lconst hx hb hdec rfl (K H locs lsA hl hR hS)
    · cases hf
  | iload_n k =>
    simp only [qm_eff, qm_go] at hf
    split at hf
    · rename_i x hg
      split at hf
      · rename_i hlen
        subst hlen
        cases hf
        intro H locs lsA hl hR hS
        exact lv_iload_n hx hb hdec rfl (qs_get hl hg) (K H locs lsA hl hR hS)
      · cases hf
    · cases hf
  | iload k =>
    simp only [qm_eff, qm_go] at hf
    split at hf
    · rename_i x hg
      split at hf
      · rename_i hlen
        subst hlen
        cases hf
        intro H locs lsA hl hR hS
        exact lv_iload hx hb hdec (qs_get hl hg) (K H locs lsA hl hR hS)
      · cases hf
    · cases hf
  | lload_n k =>
    simp only [qm_eff, qm_go] at hf
    split at hf
    · rename_i x hg
      split at hf
      · rename_i hlen
        subst hlen
        cases hf
        intro H locs lsA hl hR hS
        exact lv_lload_n hx hb hdec rfl (qs_get hl hg) (K H locs lsA hl hR hS)
      · cases hf
    · cases hf
  | lload k =>
    simp only [qm_eff, qm_go] at hf
    split at hf
    · rename_i x hg
      split at hf
      · rename_i hlen
        subst hlen
        cases hf
        intro H locs lsA hl hR hS
        exact lv_lload hx hb hdec (qs_get hl hg) (K H locs lsA hl hR hS)
      · cases hf
    · cases hf
  | aload_n k =>
    simp only [qm_eff, qm_go] at hf
    split at hf
    · rename_i x hg
      split at hf
      · rename_i hlen
        subst hlen
        cases hf
        intro H locs lsA hl hR hS
        exact lv_aload_n hx hb hdec rfl (qs_get hl hg) (K H locs lsA hl hR hS)
      · cases hf
    · cases hf
  | aload k =>
    simp only [qm_eff, qm_go] at hf
    split at hf
    · rename_i x hg
      split at hf
      · rename_i hlen
        subst hlen
        cases hf
        intro H locs lsA hl hR hS
        exact lv_aload hx hb hdec (qs_get hl hg) (K H locs lsA hl hR hS)
      · cases hf
    · cases hf
  | istore_n k =>
    simp only [qm_eff, qm_go] at hf
    split at hf
    · rename_i x r
      split at hf
      · rename_i hlen
        obtain ⟨rfl, hlt⟩ := hlen
        cases hf
        intro H locs lsA hl hR hS
        exact lv_istore_n hx hb hdec rfl hl (hM1 ▸ hlt) (qs_put1 ls (k : Nat) (.int x)) (fun ls' hl' => K H locs ls' hl' hR hS)
      · cases hf
    · cases hf
  | istore k =>
    simp only [qm_eff, qm_go] at hf
    split at hf
    · rename_i x r
      split at hf
      · rename_i hlen
        obtain ⟨rfl, hlt⟩ := hlen
        cases hf
        intro H locs lsA hl hR hS
        exact lv_istore hx hb hdec hl (hM1 ▸ hlt) (qs_put1 ls k (.int x)) (fun ls' hl' => K H locs ls' hl' hR hS)
      · cases hf
    · cases hf
  | astore_n k =>
    simp only [qm_eff, qm_go] at hf
    split at hf
    · rename_i x r
      split at hf
      · rename_i hlen
        obtain ⟨rfl, hlt⟩ := hlen
        cases hf
        intro H locs lsA hl hR hS
        exact lv_astore_n hx hb hdec rfl hl (hM1 ▸ hlt) (qs_put1 ls (k : Nat) (.ref x)) (fun ls' hl' => K H locs ls' hl' hR hS)
      · cases hf
    · cases hf
  | astore k =>
    simp only [qm_eff, qm_go] at hf
    split at hf
    · rename_i x r
      split at hf
      · rename_i hlen
        obtain ⟨rfl, hlt⟩ := hlen
        cases hf
        intro H locs lsA hl hR hS
        exact lv_astore hx hb hdec hl (hM1 ▸ hlt) (qs_put1 ls k (.ref x)) (fun ls' hl' => K H locs ls' hl' hR hS)
      · cases hf
    · cases hf
  | lstore_n k =>
    simp only [qm_eff, qm_go] at hf
    split at hf
    · rename_i x r
      split at hf
      · rename_i hlen
        obtain ⟨rfl, hlt⟩ := hlen
        cases hf
        intro H locs lsA hl hR hS
        exact lv_lstore_n hx hb hdec rfl hl (hM1 ▸ hlt) (qs_put2 ls (k : Nat) (.long x)) (fun ls' hl' => K H locs ls' hl' hR hS)
      · cases hf
    · cases hf
  | lstore k =>
    simp only [qm_eff, qm_go] at hf
    split at hf
    · rename_i x r
      split at hf
      · rename_i hlen
        obtain ⟨rfl, hlt⟩ := hlen
        cases hf
        intro H locs lsA hl hR hS
        exact lv_lstore hx hb hdec hl (hM1 ▸ hlt) (qs_put2 ls k (.long x)) (fun ls' hl' => K H locs ls' hl' hR hS)
      · cases hf
    · cases hf
  | iinc k d =>
    simp only [qm_eff, qm_go] at hf
    split at hf
    · rename_i x hg
      split at hf
      · rename_i hlen
        obtain ⟨rfl, hlt⟩ := hlen
        cases hf
        intro H locs lsA hl hR hS
        obtain ⟨j, hj⟩ := qs_getp (xa := xa) (base := base) hg
        exact lv_iinc hx hb hdec hl hj rfl (hM1 ▸ hlt) (qs_put1 ls k (.int (x + Int32.ofInt d))) (fun ls' hl' => K H locs ls' hl' hR hS)
      · cases hf
    · cases hf
  | iadd =>
    simp only [qm_eff, qm_go] at hf
    split at hf
    · split at hf
      · rename_i hlen
        subst hlen
        cases hf
        intro H locs lsA hl hR hS
        exact lv_iadd hx hb hdec (K H locs lsA hl hR hS)
      · cases hf
    · cases hf
  | isub =>
    simp only [qm_eff, qm_go] at hf
    split at hf
    · split at hf
      · rename_i hlen
        subst hlen
        cases hf
        intro H locs lsA hl hR hS
        exact lv_isub hx hb hdec (K H locs lsA hl hR hS)
      · cases hf
    · cases hf
  | imul =>
    simp only [qm_eff, qm_go] at hf
    split at hf
    · split at hf
      · rename_i hlen
        subst hlen
        cases hf
        intro H locs lsA hl hR hS
        exact lv_imul hx hb hdec (K H locs lsA hl hR hS)
      · cases hf
    · cases hf
  | iand =>
    simp only [qm_eff, qm_go] at hf
    split at hf
    · split at hf
      · rename_i hlen
        subst hlen
        cases hf
        intro H locs lsA hl hR hS
        exact lv_iand hx hb hdec (K H locs lsA hl hR hS)
      · cases hf
    · cases hf
  | ior =>
    simp only [qm_eff, qm_go] at hf
    split at hf
    · split at hf
      · rename_i hlen
        subst hlen
        cases hf
        intro H locs lsA hl hR hS
        exact lv_ior hx hb hdec (K H locs lsA hl hR hS)
      · cases hf
    · cases hf
  | ixor =>
    simp only [qm_eff, qm_go] at hf
    split at hf
    · split at hf
      · rename_i hlen
        subst hlen
        cases hf
        intro H locs lsA hl hR hS
        exact lv_ixor hx hb hdec (K H locs lsA hl hR hS)
      · cases hf
    · cases hf
  | ladd =>
    simp only [qm_eff, qm_go] at hf
    split at hf
    · split at hf
      · rename_i hlen
        subst hlen
        cases hf
        intro H locs lsA hl hR hS
        exact lv_ladd hx hb hdec (K H locs lsA hl hR hS)
      · cases hf
    · cases hf
  | lsub =>
    simp only [qm_eff, qm_go] at hf
    split at hf
    · split at hf
      · rename_i hlen
        subst hlen
        cases hf
        intro H locs lsA hl hR hS
        exact lv_lsub hx hb hdec (K H locs lsA hl hR hS)
      · cases hf
    · cases hf
  | lmul =>
    simp only [qm_eff, qm_go] at hf
    split at hf
    · split at hf
      · rename_i hlen
        subst hlen
        cases hf
        intro H locs lsA hl hR hS
        exact lv_lmul hx hb hdec (K H locs lsA hl hR hS)
      · cases hf
    · cases hf
  | land =>
    simp only [qm_eff, qm_go] at hf
    split at hf
    · split at hf
      · rename_i hlen
        subst hlen
        cases hf
        intro H locs lsA hl hR hS
        exact lv_land hx hb hdec (K H locs lsA hl hR hS)
      · cases hf
    · cases hf
  | lor =>
    simp only [qm_eff, qm_go] at hf
    split at hf
    · split at hf
      · rename_i hlen
        subst hlen
        cases hf
        intro H locs lsA hl hR hS
        exact lv_lor hx hb hdec (K H locs lsA hl hR hS)
      · cases hf
    · cases hf
  | lxor =>
    simp only [qm_eff, qm_go] at hf
    split at hf
    · split at hf
      · rename_i hlen
        subst hlen
        cases hf
        intro H locs lsA hl hR hS
        exact lv_lxor hx hb hdec (K H locs lsA hl hR hS)
      · cases hf
    · cases hf
  | ishl =>
    simp only [qm_eff, qm_go] at hf
    split at hf
    · split at hf
      · rename_i hlen
        subst hlen
        cases hf
        intro H locs lsA hl hR hS
        exact lv_ishl hx hb hdec (K H locs lsA hl hR hS)
      · cases hf
    · cases hf
  | ishr =>
    simp only [qm_eff, qm_go] at hf
    split at hf
    · split at hf
      · rename_i hlen
        subst hlen
        cases hf
        intro H locs lsA hl hR hS
        exact lv_ishr hx hb hdec (K H locs lsA hl hR hS)
      · cases hf
    · cases hf
  | iushr =>
    simp only [qm_eff, qm_go] at hf
    split at hf
    · split at hf
      · rename_i hlen
        subst hlen
        cases hf
        intro H locs lsA hl hR hS
        exact lv_iushr hx hb hdec rfl (K H locs lsA hl hR hS)
      · cases hf
    · cases hf
  | lshl =>
    simp only [qm_eff, qm_go] at hf
    split at hf
    · split at hf
      · rename_i hlen
        subst hlen
        cases hf
        intro H locs lsA hl hR hS
        exact lv_lshl hx hb hdec rfl (K H locs lsA hl hR hS)
      · cases hf
    · cases hf
  | lshr =>
    simp only [qm_eff, qm_go] at hf
    split at hf
    · split at hf
      · rename_i hlen
        subst hlen
        cases hf
        intro H locs lsA hl hR hS
        exact lv_lshr hx hb hdec rfl (K H locs lsA hl hR hS)
      · cases hf
    · cases hf
  | lushr =>
    simp only [qm_eff, qm_go] at hf
    split at hf
    · split at hf
      · rename_i hlen
        subst hlen
        cases hf
        intro H locs lsA hl hR hS
        exact lv_lushr hx hb hdec rfl (K H locs lsA hl hR hS)
      · cases hf
    · cases hf
  | lcmp =>
    simp only [qm_eff, qm_go] at hf
    split at hf
    · split at hf
      · rename_i hlen
        subst hlen
        cases hf
        intro H locs lsA hl hR hS
        exact W.lcmp hx hb hdec (K H locs lsA hl hR hS)
      · cases hf
    · cases hf
  | ineg =>
    simp only [qm_eff, qm_go] at hf
    split at hf
    · split at hf
      · rename_i hlen
        subst hlen
        cases hf
        intro H locs lsA hl hR hS
        exact lv_ineg hx hb hdec (K H locs lsA hl hR hS)
      · cases hf
    · cases hf
  | i2l =>
    simp only [qm_eff, qm_go] at hf
    split at hf
    · split at hf
      · rename_i hlen
        subst hlen
        cases hf
        intro H locs lsA hl hR hS
        exact lv_i2l hx hb hdec rfl (K H locs lsA hl hR hS)
      · cases hf
    · cases hf
  | l2i =>
    simp only [qm_eff, qm_go] at hf
    split at hf
    · split at hf
      · rename_i hlen
        subst hlen
        cases hf
        intro H locs lsA hl hR hS
        exact lv_l2i hx hb hdec rfl (K H locs lsA hl hR hS)
      · cases hf
    · cases hf
  | i2b =>
    simp only [qm_eff, qm_go] at hf
    split at hf
    · split at hf
      · rename_i hlen
        subst hlen
        cases hf
        intro H locs lsA hl hR hS
        exact lv_i2b hx hb hdec rfl (K H locs lsA hl hR hS)
      · cases hf
    · cases hf
  | i2s =>
    simp only [qm_eff, qm_go] at hf
    split at hf
    · split at hf
      · rename_i hlen
        subst hlen
        cases hf
        intro H locs lsA hl hR hS
        exact lv_i2s hx hb hdec rfl (K H locs lsA hl hR hS)
      · cases hf
    · cases hf
  | i2c =>
    simp only [qm_eff, qm_go] at hf
    split at hf
    · split at hf
      · rename_i hlen
        subst hlen
        cases hf
        intro H locs lsA hl hR hS
        exact lv_i2c hx hb hdec rfl (K H locs lsA hl hR hS)
      · cases hf
    · cases hf
  | idiv =>
    simp only [qm_eff, qm_go] at hf
    split at hf
    · split at hf
      · rename_i hlen
        obtain ⟨rfl, hne⟩ := hlen
        cases hf
        intro H locs lsA hl hR hS
        exact lv_idiv hx hb hdec hne (K H locs lsA hl hR hS)
      · cases hf
    · cases hf
  | irem =>
    simp only [qm_eff, qm_go] at hf
    split at hf
    · split at hf
      · rename_i hlen
        obtain ⟨rfl, hne⟩ := hlen
        cases hf
        intro H locs lsA hl hR hS
        exact lv_irem hx hb hdec hne (K H locs lsA hl hR hS)
      · cases hf
    · cases hf
  | dup =>
    simp only [qm_eff, qm_go] at hf
    split at hf
    · split at hf
      · rename_i hlen
        obtain ⟨rfl, h1⟩ := hlen
        cases hf
        intro H locs lsA hl hR hS
        exact lv_dup hx hb hdec ((qs_tv_cat _).trans h1) (K H locs lsA hl hR hS)
      · cases hf
    · cases hf
  | pop =>
    simp only [qm_eff, qm_go] at hf
    split at hf
    · split at hf
      · rename_i hlen
        obtain ⟨rfl, h1⟩ := hlen
        cases hf
        intro H locs lsA hl hR hS
        exact lv_pop hx hb hdec ((qs_tv_cat _).trans h1) (K H locs lsA hl hR hS)
      · cases hf
    · cases hf
  | dup_x1 =>
    simp only [qm_eff, qm_go] at hf
    split at hf
    · split at hf
      · rename_i hlen
        obtain ⟨rfl, h1, h2⟩ := hlen
        cases hf
        intro H locs lsA hl hR hS
        exact lv_dup_x1 hx hb hdec ((qs_tv_cat _).trans h1) ((qs_tv_cat _).trans h2) (K H locs lsA hl hR hS)
      · cases hf
    · cases hf
  | dup2 =>
    simp only [qm_eff, qm_go] at hf
    split at hf
    · split at hf
      · rename_i hlen
        obtain ⟨rfl, h1, h2⟩ := hlen
        cases hf
        intro H locs lsA hl hR hS
        exact lv_dup2_11 hx hb hdec ((qs_tv_cat _).trans h1) ((qs_tv_cat _).trans h2) (K H locs lsA hl hR hS)
      · cases hf
    · cases hf
  | pop2 =>
    simp only [qm_eff, qm_go] at hf
    split at hf
    · split at hf
      · rename_i hlen
        obtain ⟨rfl, h1⟩ := hlen
        cases hf
        intro H locs lsA hl hR hS
        exact lv_pop2_2 hx hb hdec ((qs_tv_cat _).trans h1) (K H locs lsA hl hR hS)
      · cases hf
    · cases hf
  | ifCond k off =>
    simp only [qm_eff, qm_go] at hf
    split at hf
    · split at hf
      · rename_i hlen
        subst hlen
        split at hf
        · rename_i hc
          obtain ⟨t, ht, rfl⟩ := qs_jump hf
          intro H locs lsA hl hR hS
          exact qs_icond hx hb hdec ht (fun _ => K H locs lsA hl hR hS) (fun h => by rw [hc] at h; cases h)
        · rename_i hc
          cases hf
          intro H locs lsA hl hR hS
          obtain ⟨t, ht⟩ := hjmp
          exact qs_icond hx hb hdec ht (fun h => absurd h hc) (fun _ => K H locs lsA hl hR hS)
      · cases hf
    · cases hf
  | if_icmp k off =>
    simp only [qm_eff, qm_go] at hf
    split at hf
    · split at hf
      · rename_i hlen
        subst hlen
        split at hf
        · rename_i hc
          obtain ⟨t, ht, rfl⟩ := qs_jump hf
          intro H locs lsA hl hR hS
          exact qs_icmp hx hb hdec ht (fun _ => K H locs lsA hl hR hS) (fun h => by rw [hc] at h; cases h)
        · rename_i hc
          cases hf
          intro H locs lsA hl hR hS
          obtain ⟨t, ht⟩ := hjmp
          exact qs_icmp hx hb hdec ht (fun h => absurd h hc) (fun _ => K H locs lsA hl hR hS)
      · cases hf
    · cases hf
  | goto off =>
    simp only [qm_eff, qm_go] at hf
    split at hf
    · rename_i hlen
      subst hlen
      obtain ⟨t, ht, rfl⟩ := qs_jump hf
      intro H locs lsA hl hR hS
      exact lv_goto hx hb hdec ht (K H locs lsA hl hR hS)
    · cases hf
  | tableswitch dflt lo hi offs =>
    simp only [qm_eff, qm_go] at hf
    split at hf
    · split at hf
      · rename_i h
        obtain ⟨t, ht, rfl⟩ := qs_jump hf
        intro H locs lsA hl hR hS
        exact lv_tableOut hx hb hdec h ht (K H locs lsA hl hR hS)
      · rename_i x r h
        cases ho : offs[(x.toInt - lo).toNat]? with
        | none => rw [ho] at hf; cases hf
        | some off =>
          rw [ho] at hf
          obtain ⟨t, ht, rfl⟩ := qs_jump hf
          intro H locs lsA hl hR hS
          exact lv_tableIn hx hb hdec (fun z => h (Or.inl z)) (fun z => h (Or.inr z)) ho ht (K H locs lsA hl hR hS)
    · cases hf
  | lookupswitch dflt ps =>
    simp only [qm_eff, qm_go] at hf
    split at hf
    · split at hf
      · rename_i h
        obtain ⟨t, ht, rfl⟩ := qs_jump hf
        intro H locs lsA hl hR hS
        exact lv_lookup hx hb hdec h rfl ht (K H locs lsA hl hR hS)
      · cases hf
    · cases hf
  | ldc i =>
    simp only [qm_eff, qm_go] at hf
    split at hf
    · rename_i h
      obtain ⟨rfl, h⟩ := h
      cases hf
      intro H locs lsA hl hR hS
      have k := K H locs lsA hl hR hS
      rcases h with h | h
      · obtain ⟨v, hv, hw⟩ := hok.1 h
        have hv : rv = .int v := hv
        subst hv
        exact lv_ldc hx hb hown (hts _ (qs_in hw rfl)) hdec k
      · obtain ⟨tx, j, hv, hj, hw⟩ := hok.2 h
        have hv : rv = .ref j := hv
        subst hv
        have e1 : qs_tv xa base (.ref j) = .ref (xa j) := by show Value.ref (qs_ad xa base j) = _; rw [qs_ad_lo hj]
        simp only [List.map_cons, e1] at k
        exact va_ldcS hx hb hown (hX.2.2.2.1 _ hw) hdec k
    · cases hf
  | ldc_w i =>
    simp only [qm_eff, qm_go] at hf
    split at hf
    · rename_i h
      obtain ⟨rfl, h⟩ := h
      cases hf
      intro H locs lsA hl hR hS
      have k := K H locs lsA hl hR hS
      obtain ⟨v, hv, hw⟩ := hok h
      have hv : rv = .int v := hv
      subst hv
      exact lv_ldcw hx hb hown (hts _ (qs_in hw rfl)) hdec k
    · cases hf
  | ldc2_w i =>
    simp only [qm_eff, qm_go] at hf
    split at hf
    · rename_i h
      obtain ⟨rfl, h⟩ := h
      cases hf
      intro H locs lsA hl hR hS
      have k := K H locs lsA hl hR hS
      obtain ⟨v, hv, hw⟩ := hok h
      have hv : rv = .long v := hv
      subst hv
      exact lv_ldc2 hx hb hown (hts _ (qs_in hw rfl)) hdec k
    · cases hf
  | getstatic i =>
    simp only [qm_eff, qm_go] at hf
    split at hf
    · rename_i h
      obtain ⟨rfl, h⟩ := h
      cases hf
      intro H locs lsA hl hR hS
      obtain ⟨C, n', d, hm, hw⟩ := hok.1 h
      exact va_gets hx hb (hX.2.2.1 _ hm) hS hown (hts _ (qs_in hw rfl)) (fun _ h => h) hdec (K H locs lsA hl hR hS)
    · split at hf
      · rename_i h
        obtain ⟨rfl, h⟩ := h
        cases hf
        intro H locs lsA hl hR hS
        obtain ⟨C, n', d, hm, hw⟩ := hok.2 h
        exact va_gets hx hb (hX.2.2.1 _ hm) hS hown (hts _ (qs_in hw rfl)) (fun _ h => h) hdec (K H locs lsA hl hR hS)
      · cases hf
  | getfield i =>
    simp only [qm_eff, qm_go] at hf
    split at hf
    · rename_i a r
      split at hf
      · rename_i ci fs hcell
        split at hf
        · rename_i v hv
          split at hf
          · rename_i h
            obtain ⟨rfl, rfl, h9⟩ := h
            cases hf
            intro H locs lsA hl hR hS
            have k := K H locs lsA hl hR hS
            by_cases ha : a < 16
            · rw [qs_cell_lo ha] at hcell
              obtain ⟨e13, -, hval, hcod⟩ := hX.2.1 a _ _ ha hcell
              have e1 : qs_tv xa base (.ref a) = .ref (xa a) := by show Value.ref (qs_ad xa base a) = _; rw [qs_ad_lo ha]
              show W p l e R s m args below meth c H locs cn n Z (F0 m pc lsA (qs_tv xa base (.ref a) :: r.map (qs_tv xa base)))
              rw [e1]
              rcases hok with h0 | ⟨-, -, h0⟩ | ⟨h0, -⟩
              · exact absurd h0 h9
              · rcases h0 with ⟨h0, hw⟩ | ⟨h0, hw⟩
                · have h0 : r2 = 0 := h0
                  subst h0
                  exact vk_getf hx hb (hval _ hv) hS hown (hts _ (qs_in hw rfl)) (fun _ h => h) hdec k
                · have h0 : r2 = 1 := h0
                  subst h0
                  exact vk_getf hx hb (hcod _ hv) hS hown (hts _ (qs_in hw rfl)) (fun _ h => h) hdec k
              · have h0 : ci < 13 := h0
                omega
            · have ha : 16 ≤ a := Nat.le_of_not_lt ha
              rw [qs_cell_hi ha] at hcell
              have e1 : qs_tv xa base (.ref a) = .ref (base + (a - 16)) := by show Value.ref (qs_ad xa base a) = _; rw [qs_ad_hi ha]
              show W p l e R s m args below meth c H locs cn n Z (F0 m pc lsA (qs_tv xa base (.ref a) :: r.map (qs_tv xa base)))
              rw [e1]
              rcases hok with h0 | ⟨-, h13, -⟩ | ⟨h0, C, N, hc, hk, hw⟩
              · exact absurd h0 h9
              · obtain ⟨rr, hrr, -⟩ := hR.2 _ _ hcell
                have h13 : ci = 13 := h13
                subst h13
                cases hrr
              · obtain ⟨-, hin, -, -⟩ := hall.1 _ _ hc
                have hv' : (fs.map (qs_tv xa base))[r2]? = some (qs_tv xa base v) := by rw [List.getElem?_map, hv]; rfl
                rcases hw with ⟨-, hw⟩ | ⟨host, hw⟩
                · exact va_get hx hb hts (qs_u_in hin) hown hK (qs_P1 hR hcell) 0 rfl hc r2 hk (hts _ (qs_in hw rfl)) (fun _ h => h) hv' hdec k
                · exact va_getN hx hb hts (qs_u_in hin) hown hK (qs_P1 hR hcell) 0 rfl hc r2 hk (va_Nw.use rfl (hX.2.2.2.2.1 _ hw)) (fun _ h => h) hv' hdec k
          · cases hf
        · cases hf
      · cases hf
    · cases hf
  | putfield i =>
    simp only [qm_eff, qm_go] at hf
    split at hf
    · rename_i v a r
      split at hf
      · rename_i ci fs hcell
        split at hf
        · rename_i h
          obtain ⟨rfl, ha, rfl, h0, hlf, hfin, hfit⟩ := h
          cases hf
          intro H locs lsA hl hR hS
          have e1 : qs_tv xa base (.ref a) = .ref (base + (a - 16)) := by show Value.ref (qs_ad xa base a) = _; rw [qs_ad_hi ha]
          show W p l e R s m args below meth c H locs cn n Z (F0 m pc lsA (qs_tv xa base v :: qs_tv xa base (.ref a) :: r.map (qs_tv xa base)))
          rw [e1]
          rcases hok with h9 | ⟨hdecl, C, N, hc, hk, hw⟩
          · exact absurd h0 h9
          · obtain ⟨-, hin, hty, hnm⟩ := hall.1 _ _ hc
            obtain ⟨ty, hd, hb2⟩ : ∃ ty, parseFieldDescriptor (qx_T ci r2).2.2.1 = some ty ∧ qm_fitb ty v = true := by
              cases hpd : parseFieldDescriptor (qx_T ci r2).2.2.1 with
              | none => rw [hpd] at hfit; cases hfit
              | some ty => rw [hpd] at hfit; exact ⟨ty, rfl, hfit⟩
            obtain ⟨hn, hft⟩ := qs_fitv (xa := xa) (base := base) hb2
            have kk : ∀ H1 : Heap, va_at D qx_cl (base + (a - 16), .inr (ci, (fs.map (qs_tv xa base)).set r2 (qs_tv xa base v))) H1 → H1.size = H.size → (∀ q : Nat, q ≠ base + (a - 16) → H1[q]? = H[q]?) → W p l e R s m args below meth c H1 (locs ++ [⟨base + (a - 16), D.2 ci r2⟩]) cn n Z (F0 m (pc + 3) lsA (r.map (qs_tv xa base))) := by
              intro H1 e1 z o
              refine K H1 _ lsA hl (qs_R_set hR hcell ?_ z o) (hS.put z o (Nat.le_add_right _ _))
              show va_at D qx_cl (base + (a - 16), .inr (ci, (fs.set r2 v).map (qs_tv xa base))) H1
              rw [List.map_set]
              exact e1
            cases hf2 : (qx_T ci r2).2.2.2 with
            | false => exact qs_put hx hb hts (qs_u_in hin) (qx_ty ci) hty hnm hown hK (hR.2 _ _ hcell) hc hk (hts _ (qs_in hw rfl)) hf2 hd hn hft (by rw [List.length_map]; exact hlf) hdec kk
            | true =>
              obtain ⟨f1, f2⟩ := hfin hf2
              exact qs_putF hx hb hts (qs_u_in hin) (qx_ty ci) hty hnm hown hK (hR.2 _ _ hcell) hc hk (hts _ (qs_in hw rfl)) hf2 (hinit f1) (hdecl (hMo ▸ f2)) hd hn hft (by rw [List.length_map]; exact hlf) hdec kk
        · cases hf
      · cases hf
    · cases hf
  | iaload =>
    simp only [qm_eff, qm_go] at hf
    split at hf
    · rename_i i a r
      split at hf
      · rename_i mm f hcell
        split at hf
        · rename_i h
          obtain ⟨rfl, hin⟩ := h
          cases hf
          intro H locs lsA hl hR hS
          have k := K H locs lsA hl hR hS
          by_cases ha : a < 16
          · rw [qs_cell_lo ha] at hcell
            have e1 : qs_tv xa base (.ref a) = .ref (xa a) := by show Value.ref (qs_ad xa base a) = _; rw [qs_ad_lo ha]
            show W p l e R s m args below meth c H locs cn n Z (F0 m pc lsA (.int i :: qs_tv xa base (.ref a) :: r.map (qs_tv xa base)))
            rw [e1]
            exact va_ti hx hb (hX.1 a mm .int f ha hcell) hS (qs_vin hin) rfl hdec k
          · have ha : 16 ≤ a := Nat.le_of_not_lt ha
            rw [qs_cell_hi ha] at hcell
            have e1 : qs_tv xa base (.ref a) = .ref (base + (a - 16)) := by show Value.ref (qs_ad xa base a) = _; rw [qs_ad_hi ha]
            show W p l e R s m args below meth c H locs cn n Z (F0 m pc lsA (.int i :: qs_tv xa base (.ref a) :: r.map (qs_tv xa base)))
            rw [e1]
            exact va_iald hx hb hK (qs_P1 hR hcell) 0 0 rfl rfl (qs_vin hin) hdec k
        · cases hf
      · cases hf
    · cases hf
  | laload =>
    simp only [qm_eff, qm_go] at hf
    split at hf
    · rename_i i a r
      split at hf
      · rename_i mm f hcell
        split at hf
        · rename_i h
          obtain ⟨rfl, ha, hin⟩ := h
          cases hf
          intro H locs lsA hl hR hS
          have k := K H locs lsA hl hR hS
          have e1 : qs_tv xa base (.ref a) = .ref (base + (a - 16)) := by show Value.ref (qs_ad xa base a) = _; rw [qs_ad_hi ha]
          show W p l e R s m args below meth c H locs cn n Z (F0 m pc lsA (.int i :: qs_tv xa base (.ref a) :: r.map (qs_tv xa base)))
          rw [e1]
          exact va_lald hx hb hK (qs_P1 hR hcell) 0 1 rfl rfl (qs_vin hin) hdec k
        · cases hf
      · cases hf
    · cases hf
  | aaload =>
    simp only [qm_eff, qm_go] at hf
    split at hf
    · rename_i i a r
      split at hf
      · rename_i C mm f hcell
        split at hf
        · rename_i h
          obtain ⟨rfl, ha, rfl, hin⟩ := h
          cases hf
          intro H locs lsA hl hR hS
          have k := K H locs lsA hl hR hS
          have e1 : qs_tv xa base (.ref a) = .ref (base + (a - 16)) := by show Value.ref (qs_ad xa base a) = _; rw [qs_ad_hi ha]
          show W p l e R s m args below meth c H locs cn n Z (F0 m pc lsA (.int i :: qs_tv xa base (.ref a) :: r.map (qs_tv xa base)))
          rw [e1]
          have e2 : qs_tv xa base (va_rf (f i.toNatClampNeg)) = va_rf ((f i.toNatClampNeg).map (qs_ad xa base)) := by cases f i.toNatClampNeg <;> rfl
          simp only [List.map_cons, e2] at k
          exact va_aldq (C := "OneRoof$Custom") hx hb hK (qs_P1 hR hcell) 0 3 rfl rfl (qs_vin hin) hdec k
        · cases hf
      · cases hf
    · cases hf
  | baload =>
    simp only [qm_eff, qm_go] at hf
    split at hf
    · rename_i i a r
      split at hf
      · rename_i mm f hcell
        split at hf
        · rename_i h
          obtain ⟨rfl, ha, hin⟩ := h
          cases hf
          intro H locs lsA hl hR hS
          have k := K H locs lsA hl hR hS
          rw [qs_cell_hi ha] at hcell
          have e1 : qs_tv xa base (.ref a) = .ref (base + (a - 16)) := by show Value.ref (qs_ad xa base a) = _; rw [qs_ad_hi ha]
          show W p l e R s m args below meth c H locs cn n Z (F0 m pc lsA (.int i :: qs_tv xa base (.ref a) :: r.map (qs_tv xa base)))
          rw [e1]
          exact va_zald hx hb hK (qs_P1 hR hcell) 0 2 rfl rfl (qs_vin hin) hdec k
        · cases hf
      · rename_i mm f hcell
        split at hf
        · rename_i h
          obtain ⟨rfl, ha, hin⟩ := h
          cases hf
          intro H locs lsA hl hR hS
          have k := K H locs lsA hl hR hS
          rw [qs_cell_lo ha] at hcell
          have e1 : qs_tv xa base (.ref a) = .ref (xa a) := by show Value.ref (qs_ad xa base a) = _; rw [qs_ad_lo ha]
          show W p l e R s m args below meth c H locs cn n Z (F0 m pc lsA (.int i :: qs_tv xa base (.ref a) :: r.map (qs_tv xa base)))
          rw [e1]
          exact va_tb hx hb (hX.1 a mm .byte f ha hcell) hS (qs_vin hin) rfl hdec k
        · cases hf
      · cases hf
    · cases hf
  | iastore =>
    simp only [qm_eff, qm_go] at hf
    split at hf
    · rename_i x i a r
      split at hf
      · rename_i mm f hcell
        split at hf
        · rename_i h
          obtain ⟨rfl, ha, hin⟩ := h
          cases hf
          intro H locs lsA hl hR hS
          have e1 : qs_tv xa base (.ref a) = .ref (base + (a - 16)) := by show Value.ref (qs_ad xa base a) = _; rw [qs_ad_hi ha]
          show W p l e R s m args below meth c H locs cn n Z (F0 m pc lsA (.int x :: .int i :: qs_tv xa base (.ref a) :: r.map (qs_tv xa base)))
          rw [e1]
          exact qs_iast hx hb ((hK.2 0 _ rfl).1) (hR.2 _ _ hcell) (qs_vin hin) hdec (fun H1 e1 z o => K H1 _ lsA hl (qs_R_set hR hcell e1 z o) (hS.put z o (Nat.le_add_right _ _)))
        · cases hf
      · cases hf
    · cases hf
  | lastore =>
    simp only [qm_eff, qm_go] at hf
    split at hf
    · rename_i x i a r
      split at hf
      · rename_i mm f hcell
        split at hf
        · rename_i h
          obtain ⟨rfl, ha, hin⟩ := h
          cases hf
          intro H locs lsA hl hR hS
          have e1 : qs_tv xa base (.ref a) = .ref (base + (a - 16)) := by show Value.ref (qs_ad xa base a) = _; rw [qs_ad_hi ha]
          show W p l e R s m args below meth c H locs cn n Z (F0 m pc lsA (.long x :: .int i :: qs_tv xa base (.ref a) :: r.map (qs_tv xa base)))
          rw [e1]
          exact qs_last hx hb ((hK.2 1 _ rfl).1) (hR.2 _ _ hcell) (qs_vin hin) hdec (fun H1 e1 z o => K H1 _ lsA hl (qs_R_set hR hcell e1 z o) (hS.put z o (Nat.le_add_right _ _)))
        · cases hf
      · cases hf
    · cases hf
  | bastore =>
    simp only [qm_eff, qm_go] at hf
    split at hf
    · rename_i x i a r
      split at hf
      · rename_i mm f hcell
        split at hf
        · rename_i h
          obtain ⟨rfl, ha, hin⟩ := h
          cases hf
          intro H locs lsA hl hR hS
          have e1 : qs_tv xa base (.ref a) = .ref (base + (a - 16)) := by show Value.ref (qs_ad xa base a) = _; rw [qs_ad_hi ha]
          show W p l e R s m args below meth c H locs cn n Z (F0 m pc lsA (.int x :: .int i :: qs_tv xa base (.ref a) :: r.map (qs_tv xa base)))
          rw [e1]
          exact qs_zast hx hb ((hK.2 2 _ rfl).1) (hR.2 _ _ hcell) (qs_vin hin) hdec (fun H1 e1 z o => K H1 _ lsA hl (qs_R_set hR hcell e1 z o) (hS.put z o (Nat.le_add_right _ _)))
        · cases hf
      · cases hf
    · cases hf
  | aastore =>
    simp only [qm_eff, qm_go] at hf
    split at hf
    · rename_i v i a r
      split at hf
      · rename_i C mm f cv vs hcell hcv
        split at hf
        · rename_i h
          obtain ⟨rfl, ha, hv, rfl, rfl, hin⟩ := h
          cases hf
          intro H locs lsA hl hR hS
          have e1 : qs_tv xa base (.ref a) = .ref (base + (a - 16)) := by show Value.ref (qs_ad xa base a) = _; rw [qs_ad_hi ha]
          have e2 : qs_tv xa base (.ref v) = .ref (base + (v - 16)) := by show Value.ref (qs_ad xa base v) = _; rw [qs_ad_hi hv]
          show W p l e R s m args below meth c H locs cn n Z (F0 m pc lsA (qs_tv xa base (.ref v) :: .int i :: qs_tv xa base (.ref a) :: r.map (qs_tv xa base)))
          rw [e1, e2]
          refine qs_aast hx hb hK (hK.2 3 _ rfl).2 (hR.2 _ _ hcell) (hR.2 _ _ hcv) rfl (qs_vin hin) hdec (fun H1 e1 z o => K H1 _ lsA hl (qs_R_set hR hcell ?_ z o) (hS.put z o (Nat.le_add_right _ _)))
          show H1[base + (a - 16)]? = some (vp_cell _ (mm, .inr (.inr (.inr (.inr (fun k => (va_up f i.toNatClampNeg (some v) k).map (qs_ad xa base)))))))
          have e3 : (fun k => (va_up f i.toNatClampNeg (some v) k).map (qs_ad xa base)) = va_up (fun k => (f k).map (qs_ad xa base)) i.toNatClampNeg (some (base + (v - 16))) := by
            funext k
            unfold va_up
            split
            · show some (qs_ad xa base v) = _
              rw [qs_ad_hi hv]
            · rfl
          rw [e3]
          exact e1
        · cases hf
      · cases hf
    · cases hf
  | arraylength =>
    simp only [qm_eff, qm_go] at hf
    split at hf
    · rename_i a r
      split at hf
      · rename_i ty mm f hcell
        split at hf
        · rename_i h
          obtain ⟨rfl, hty⟩ := h
          cases hf
          intro H locs lsA hl hR hS
          have k := K H locs lsA hl hR hS
          exact hlen ty mm f a r hcell hty hdec H locs lsA hR hS k
        · cases hf
      · cases hf
    · cases hf
  | newarray t =>
    simp only [qm_eff, qm_go] at hf
    split at hf
    · rename_i k r
      split at hf
      · rename_i h
        obtain ⟨rfl, hk0, hk1, hcs, hns⟩ := h
        split at hf
        · cases hf
          intro H locs lsA hl hR hS
          refine va_newaK (atype := .int) hx hb (hts _ (qs_in hall.2.1.1 rfl)) rfl hdec rfl hk0 rfl (by simp [componentBytes, newarray.typeOf]; omega) (hM5 ▸ hcs) (hM6 ▸ hns) rfl fun H1 c1 e1 z1 o1 hAr hnm => ?_
          have hc : c1 = cA .int := Option.some.inj (hnm.symm.trans ((hK.2 0 _ rfl).2))
          subst hc
          have hh : qs_tv xa base (.ref (16 + w.length)) = .ref H.size := by show Value.ref (qs_ad xa base (16 + w.length)) = _; rw [qs_ad_hi (Nat.le_add_right _ _), hR.1, Nat.add_sub_cancel_left]
          have kk := K H1 locs lsA hl (qs_R_push hR e1 z1 o1) (qs_S_push hS z1 o1)
          simp only [List.map_cons, hh] at kk
          exact kk
        · cases hf
          intro H locs lsA hl hR hS
          refine va_newaK (atype := .long) hx hb (hts _ (qs_in hall.2.1.2.1 rfl)) rfl hdec rfl hk0 rfl (by simp [componentBytes, newarray.typeOf]; omega) (hM5 ▸ hcs) (hM6 ▸ hns) rfl fun H1 c1 e1 z1 o1 hAr hnm => ?_
          have hc : c1 = cA .long := Option.some.inj (hnm.symm.trans ((hK.2 1 _ rfl).2))
          subst hc
          have hh : qs_tv xa base (.ref (16 + w.length)) = .ref H.size := by show Value.ref (qs_ad xa base (16 + w.length)) = _; rw [qs_ad_hi (Nat.le_add_right _ _), hR.1, Nat.add_sub_cancel_left]
          have kk := K H1 locs lsA hl (qs_R_push hR e1 z1 o1) (qs_S_push hS z1 o1)
          simp only [List.map_cons, hh] at kk
          exact kk
        · cases hf
          intro H locs lsA hl hR hS
          refine va_newaK (atype := .boolean) hx hb (hts _ (qs_in hall.2.1.2.2.1 rfl)) rfl hdec rfl hk0 rfl (by simp [componentBytes, newarray.typeOf]; omega) (hM5 ▸ hcs) (hM6 ▸ hns) rfl fun H1 c1 e1 z1 o1 hAr hnm => ?_
          have hc : c1 = cA .boolean := Option.some.inj (hnm.symm.trans ((hK.2 2 _ rfl).2))
          subst hc
          have hh : qs_tv xa base (.ref (16 + w.length)) = .ref H.size := by show Value.ref (qs_ad xa base (16 + w.length)) = _; rw [qs_ad_hi (Nat.le_add_right _ _), hR.1, Nat.add_sub_cancel_left]
          have kk := K H1 locs lsA hl (qs_R_push hR e1 z1 o1) (qs_S_push hS z1 o1)
          simp only [List.map_cons, hh] at kk
          exact kk
        · cases hf
      · cases hf
    · cases hf
  | anewarray i =>
    simp only [qm_eff, qm_go] at hf
    split at hf
    · rename_i k r
      split at hf
      · rename_i h
        obtain ⟨rfl, h7, h0, hk0, hk1, hcs, hns⟩ := h
        cases hf
        intro H locs lsA hl hR hS
        refine qs_newq hx hb hown (hts _ (qs_in (hok h0 h7) rfl)) hX.2.2.2.2.2 hk0 rfl (by omega) (hM5 ▸ hcs) (hM6 ▸ hns) hdec fun c1 H1 hnm e1 z1 o1 => ?_
        obtain ⟨_, _, -, -, -, h4⟩ := (hK.2 3 _ rfl).2
        have hc : c1 = cA (.object "OneRoof$Custom") := Option.some.inj (hnm.symm.trans h4)
        subst hc
        have hh : qs_tv xa base (.ref (16 + w.length)) = .ref H.size := by show Value.ref (qs_ad xa base (16 + w.length)) = _; rw [qs_ad_hi (Nat.le_add_right _ _), hR.1, Nat.add_sub_cancel_left]
        have kk := K H1 locs lsA hl (qs_R_push hR e1 z1 o1) (qs_S_push hS z1 o1)
        simp only [List.map_cons, hh] at kk
        exact kk
      · cases hf
    · cases hf
  | new i =>
    simp only [qm_eff, qm_go] at hf
    split at hf
    · rename_i h
      obtain ⟨rfl, h0, hcs, hns⟩ := h
      split at hf
      · rename_i q hq
        cases hf
        intro H locs lsA hl hR hS
        obtain ⟨C, N, hc, hw1, hw2, hw3⟩ := hok h0
        have hq' : q = (C, qx_T r1, N) := Option.some.inj (hq.symm.trans hc)
        subst hq'
        obtain ⟨-, hin, hty, -⟩ := hall.1 _ _ hc
        have hns : n + N ≤ M.2.2.2.2.2 := by rw [hq] at hns; exact hns
        have hfs : ∀ j, j < N → defaultValue (qx_ty r1 j) = vp_V (((List.range N).map (fun j => defaultValue (qx_ty r1 j))).map (qs_tv xa base)) j := by
          intro j hj
          unfold vp_V
          rw [List.map_map, List.getD_eq_getElem?_getD, List.getElem?_map, List.getElem?_range hj]
          show _ = qs_tv xa base (defaultValue (qx_ty r1 j))
          cases qx_ty r1 j <;> rfl
        refine qs_new (fs := ((List.range N).map (fun j => defaultValue (qx_ty r1 j))).map (qs_tv xa base)) hx hb hts (qs_u_in hin) (qx_ty r1) hty hown (hts _ (qs_in hw1 rfl)) (hts _ (qs_in hw2 rfl)) (hts _ (qs_in hw3 rfl)) hK hc hfs (hM5 ▸ hcs) (hM6 ▸ hns) hdec fun H1 e1 z1 o1 => ?_
        have hh : qs_tv xa base (.ref (16 + w.length)) = .ref H.size := by show Value.ref (qs_ad xa base (16 + w.length)) = _; rw [qs_ad_hi (Nat.le_add_right _ _), hR.1, Nat.add_sub_cancel_left]
        have kk := K H1 locs lsA hl (qs_R_push hR e1 z1 o1) (qs_S_push hS z1 o1)
        simp only [List.map_cons, hh] at kk
        exact kk
      · cases hf
    · cases hf
  | invokespecial i =>
    simp only [qm_eff, qm_go] at hf
    split at hf
    · rename_i a r
      split at hf
      · rename_i h
        obtain ⟨rfl, h6, h0, hsm⟩ := h
        cases hf
        intro H locs lsA hl hR hS
        refine W.objInit hx hb hown (hts _ (qs_in (hok.1 h6) rfl)) (hts _ (qs_in hall.2.1.2.2.2.2.2.2.1 rfl)) (hts _ (qs_in hall.2.1.2.2.2.2.2.2.2 rfl)) rfl (by rw [hml]; exact hl.1) rfl hdec hR1 ?_ (K H locs lsA hl hR hS)
        have := qs_sum_map (xa := xa) (base := base) r
        show 2 * 0 + _ + 12 ≤ _
        omega
      · cases hf
    · cases hf
  | invokestatic i =>
    simp only [qm_eff, qm_go] at hf
    · split at hf
      · rename_i k dp a1 sp a0 r
        split at hf
        · rename_i h
          obtain ⟨rfl, h7, ha0, ha1, hsp, hdp, hk, hsm⟩ := h
          have hloc : ((r.map (qs_tv xa base)).map fun v => v.category).sum + (nativeFrameWords "java/lang/System" "arraycopy" 5 + 11) ≤ R.locals := by
            rw [qs_sum_map]
            have : nativeFrameWords "java/lang/System" "arraycopy" 5 ≤ 30 := by decide +kernel
            omega
          have e1 : qs_tv xa base (.ref a1) = .ref (base + (a1 - 16)) := by show Value.ref (qs_ad xa base a1) = _; rw [qs_ad_hi ha1]
          have e0 : qs_tv xa base (.ref a0) = .ref (base + (a0 - 16)) := by show Value.ref (qs_ad xa base a0) = _; rw [qs_ad_hi ha0]
          split at hf
          · rename_i n0 f n1 g hc0 hc1
            split at hf
            · rename_i h
              cases hf
              intro H locs lsA hl hR hS
              show W p l e R s m args below meth c H locs cn n Z (F0 m pc lsA (.int k :: .int dp :: qs_tv xa base (.ref a1) :: .int sp :: qs_tv xa base (.ref a0) :: r.map (qs_tv xa base)))
              rw [e1, e0]
              refine qs_copyi hx hb (hml.trans hl.1.symm) hown (hts _ (qs_in (hok.2 h7) rfl)) (hts _ (qs_in hall.2.1.2.2.2.1 rfl)) (hts _ (qs_in hall.2.1.2.2.2.2.1 rfl)) (hts _ (qs_in hall.2.1.2.2.2.2.2.1 rfl)) (hK.2 0 _ rfl).1 (hK.2 0 _ rfl).1 (hR.2 _ _ hc0) (hR.2 _ _ hc1) hsp hdp hk h.1 h.2 hR1 hloc hdec (fun H1 L hL e2 z o => K H1 _ lsA hl (qs_R_set hR hc1 e2 z o) ?_)
              refine ⟨by rw [z]; exact hS.1, fun q g1 g2 => ?_, fun q hq => ?_⟩
              · rw [o q (fun e => g2 (by rw [e]; exact Nat.le_add_right _ _))]
                exact hS.2.1 q g1 g2
              · rcases List.mem_append.mp hq with h | h
                · exact hS.2.2 q h
                · rw [hL q h]; exact Nat.le_add_right _ _
            · cases hf
          · rename_i n0 f n1 g hc0 hc1
            split at hf
            · rename_i h
              cases hf
              intro H locs lsA hl hR hS
              show W p l e R s m args below meth c H locs cn n Z (F0 m pc lsA (.int k :: .int dp :: qs_tv xa base (.ref a1) :: .int sp :: qs_tv xa base (.ref a0) :: r.map (qs_tv xa base)))
              rw [e1, e0]
              refine qs_copyl hx hb (hml.trans hl.1.symm) hown (hts _ (qs_in (hok.2 h7) rfl)) (hts _ (qs_in hall.2.1.2.2.2.1 rfl)) (hts _ (qs_in hall.2.1.2.2.2.2.1 rfl)) (hts _ (qs_in hall.2.1.2.2.2.2.2.1 rfl)) (hK.2 1 _ rfl).1 (hK.2 1 _ rfl).1 (hR.2 _ _ hc0) (hR.2 _ _ hc1) hsp hdp hk h.1 h.2 hR1 hloc hdec (fun H1 L hL e2 z o => K H1 _ lsA hl (qs_R_set hR hc1 e2 z o) ?_)
              refine ⟨by rw [z]; exact hS.1, fun q g1 g2 => ?_, fun q hq => ?_⟩
              · rw [o q (fun e => g2 (by rw [e]; exact Nat.le_add_right _ _))]
                exact hS.2.1 q g1 g2
              · rcases List.mem_append.mp hq with h | h
                · exact hS.2.2 q h
                · rw [hL q h]; exact Nat.le_add_right _ _
            · cases hf
          · cases hf
        · cases hf
      · cases hf
  | _ => cases hf
end QS4
