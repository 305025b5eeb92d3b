/-! what lies below stays -/
section
variable {T : Nat → Nat} {n c : Nat} {O : List Nat}
theorem opn_app : ∀ ws : List Nat, opnW (ws ++ O) = opnW ws + opnW O
  | [] => (Nat.zero_add _).symm
  | w :: ws => by
    show opnW (ws ++ O) + (if isMk w then 1 else 0) = opnW ws + (if isMk w then 1 else 0) + opnW O
    rw [opn_app ws]
    omega
theorem onP_app : ∀ (g : Nat) (p : Pz) (ws : List Nat), onP T n c g p (ws ++ O) = ((onP T n c g p ws).1, (onP T n c g p ws).2 ++ O)
  | 0, p, ws => by
    unfold onP
    by_cases a1 : wq T n c p.1.2.2 = 296
    · rw [if_pos a1, if_pos a1]
    · rw [if_neg a1, if_neg a1]
      by_cases a2 : wq T n c p.1.2.2 = 31 ∨ wq T n c p.1.2.2 = 32
      · rw [if_pos a2, if_pos a2]
        by_cases a3 : wq T n c (p.1.2.2 + 1) = 296
        · rw [if_pos a3, if_pos a3]
        · rw [if_neg a3, if_neg a3]
      · rw [if_neg a2, if_neg a2]
  | g + 1, p, ws => by
    rw [onP, onP]
    by_cases a1 : wq T n c p.1.2.2 = 296
    · rw [if_pos a1, if_pos a1]; exact onP_app g (nxP p) (20 :: ws)
    · rw [if_neg a1, if_neg a1]
      by_cases a2 : wq T n c p.1.2.2 = 31 ∨ wq T n c p.1.2.2 = 32
      · rw [if_pos a2, if_pos a2]
        by_cases a3 : wq T n c (p.1.2.2 + 1) = 296
        · rw [if_pos a3, if_pos a3]; exact onP_app g (nxP (nxP p)) ((if wq T n c p.1.2.2 = 31 then 21 else 22) :: ws)
        · rw [if_neg a3, if_neg a3]
      · rw [if_neg a2, if_neg a2]
end
