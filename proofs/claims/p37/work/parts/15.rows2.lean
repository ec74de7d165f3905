section QR2
variable {X : qm_X} {d : Nat} {x : qs_Ent} {Q : Option Value → qm_W → Prop} {pc : Nat} {ls : qm_L} {st : List Value} {w : qm_W} {c n r1 r2 r3 : Nat} {rv : Value}
theorem qr_iincG {z : Nat} {v y : Int} (ls' : Int → qm_L) (p : Nat) (hq : qm_fetch x.2.2.2.2.2.2.2 pc = some (pc, .iinc z v, 3, r1, r2, r3, rv)) (hg : qm_get ls z = some (.int (qz y))) (hz : z < x.2.2.2.1) (hl : ∀ u : Int, qm_put1 ls z (.int (qz u)) = ls' u) (hp : pc + 3 = p) (k : ∀ u : Int, u = y + v → qr_W X d x Q (p, ls' u, st, w, c, n)) : qr_W X d x Q (pc, ls, st, w, c, n) :=
  qr_iinc (ls' (y + v)) p hq hg hz (hl _) hp (k _ rfl)
end QR2
