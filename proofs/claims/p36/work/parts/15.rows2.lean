section QR2
variable {X : qm_X} {d : Nat} {x : qs_Ent} {Q : Option Value → qm_W → Prop} {pc : Nat} {ls : qm_L} {st : List Value} {w : qm_W} {c n r1 r2 r3 : Nat} {rv : Value}
theorem qr_istore_nG {z : Fin 4} {y : Int} (ls' : Int → qm_L) (p : Nat) (hq : qm_fetch x.2.2.2.2.2.2.2 pc = some (pc, .istore_n z, 1, r1, r2, r3, rv)) (hz : (z : Nat) < x.2.2.2.1) (hl : ∀ v : Int, qm_put1 ls (z : Nat) (.int (qz v)) = ls' v) (hp : pc + 1 = p) (k : ∀ v : Int, v = y → qr_W X d x Q (p, ls' v, st, w, c, n)) : qr_W X d x Q (pc, ls, .int (qz y) :: st, w, c, n) :=
  qr_istore_n (ls' y) p hq hz (hl y) hp (k y rfl)
theorem qr_istoreG {z : Nat} {y : Int} (ls' : Int → qm_L) (p : Nat) (hq : qm_fetch x.2.2.2.2.2.2.2 pc = some (pc, .istore z, 2, r1, r2, r3, rv)) (hz : z < x.2.2.2.1) (hl : ∀ v : Int, qm_put1 ls z (.int (qz v)) = ls' v) (hp : pc + 2 = p) (k : ∀ v : Int, v = y → qr_W X d x Q (p, ls' v, st, w, c, n)) : qr_W X d x Q (pc, ls, .int (qz y) :: st, w, c, n) :=
  qr_istore (ls' y) p hq hz (hl y) hp (k y rfl)
theorem qr_lstore_nG {z : Fin 4} {y : Int} (ls' : Int → qm_L) (p : Nat) (hq : qm_fetch x.2.2.2.2.2.2.2 pc = some (pc, .lstore_n z, 1, r1, r2, r3, rv)) (hz : (z : Nat) + 1 < x.2.2.2.1) (hl : ∀ v : Int, qm_put2 ls (z : Nat) (.long (ql v)) = ls' v) (hp : pc + 1 = p) (k : ∀ v : Int, v = y → qr_W X d x Q (p, ls' v, st, w, c, n)) : qr_W X d x Q (pc, ls, .long (ql y) :: st, w, c, n) :=
  qr_lstore_n (ls' y) p hq hz (hl y) hp (k y rfl)
theorem qr_lstoreG {z : Nat} {y : Int} (ls' : Int → qm_L) (p : Nat) (hq : qm_fetch x.2.2.2.2.2.2.2 pc = some (pc, .lstore z, 2, r1, r2, r3, rv)) (hz : z + 1 < x.2.2.2.1) (hl : ∀ v : Int, qm_put2 ls z (.long (ql v)) = ls' v) (hp : pc + 2 = p) (k : ∀ v : Int, v = y → qr_W X d x Q (p, ls' v, st, w, c, n)) : qr_W X d x Q (pc, ls, .long (ql y) :: st, w, c, n) :=
  qr_lstore (ls' y) p hq hz (hl y) hp (k y rfl)
theorem qr_iincG {z : Nat} {v y : Int} (ls' : Int → qm_L) (p : Nat) (hq : qm_fetch x.2.2.2.2.2.2.2 pc = some (pc, .iinc z v, 3, r1, r2, r3, rv)) (hg : qm_get ls z = some (.int (qz y))) (hz : z < x.2.2.2.1) (hl : ∀ u : Int, qm_put1 ls z (.int (qz u)) = ls' u) (hp : pc + 3 = p) (k : ∀ u : Int, u = y + v → qr_W X d x Q (p, ls' u, st, w, c, n)) : qr_W X d x Q (pc, ls, st, w, c, n) :=
  qr_iinc (ls' (y + v)) p hq hg hz (hl _) hp (k _ rfl)
end QR2
