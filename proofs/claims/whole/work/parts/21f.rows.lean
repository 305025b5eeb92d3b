section
variable {L : Nat} {xs : Nat → Int32} {ρ n : Nat} {st : List Value} {σ : Mm} {r : Option Value × Mm} {I : Nat → Nat → Int32} {Lm : Nat → Nat → Int64} {Rm : Nat → Nat → Nat}
variable {l0 l1 l2 l3 l4 l5 l6 l7 l8 : Option Value} {x y z x3 x4 x5 x6 x7 : Int32} {u v u1 u2 u3 u4 : Int64} {a b c a3 a4 : Nat}
theorem cm_166 : mcd 166 = cX11_init := rfl
theorem em_166 : Em L xs 166 [.ref a] σ r ↔ Ev L xs 0 166 0 [some (.ref a)] [] σ r := Iff.rfl
theorem x166_0 : Ev L xs ρ 166 0 [some (.ref a)] st σ r ↔ Ev L xs ρ 166 1 [some (.ref a)] (.ref a :: st) σ r := ev_aload_n cm_166 dX11_init_0 rfl rfl
theorem x166_1 : Ev L xs ρ 166 1 [l0] (.ref a :: []) σ r ↔ Ev L xs ρ 166 4 [l0] [] σ r := ev_oi cm_166 dX11_init_1 rfl (Nat.le_of_ble_eq_true rfl)
theorem x166_4 : Ev L xs ρ 166 4 [some (.ref a)] st σ r ↔ Ev L xs ρ 166 5 [some (.ref a)] (.ref a :: st) σ r := ev_aload_n cm_166 dX11_init_4 rfl rfl
theorem x166_5 : Ev L xs ρ 166 5 [l0] st σ r ↔ Ev L xs ρ 166 8 [l0] (.int (1600) :: st) σ r := ev_sipush cm_166 dX11_init_5 (by decide)
theorem x166_8 : Ev L xs ρ 166 8 [l0] (.int x :: st) (n, I, Lm, Rm) r ↔ ((n < NNN ∧ (shp n).1 = 1) ∧ (0 ≤ x.toInt ∧ x.toInt = (shp n).2)) ∧ Ev L xs ρ 166 10 [l0] (.ref n :: st) (n + 1, zr2 I n 0, zr2 Lm n 0, zr2 Rm n 0) r := ev_nwi cm_166 dX11_init_8
theorem x166_10 : Ev L xs ρ 166 10 [l0] (.ref b :: .ref a :: st) (n, I, Lm, Rm) r ↔ (a < n ∧ shp a = (0, 11)) ∧ Ev L xs ρ 166 13 [l0] st (n, I, Lm, up2 Rm a 0 (b + 1)) r := ev_ptR cm_166 dX11_init_10 rfl rfl (Or.inr ⟨rfl, rfl⟩)
theorem x166_13 : Ev L xs ρ 166 13 [some (.ref a)] st σ r ↔ Ev L xs ρ 166 14 [some (.ref a)] (.ref a :: st) σ r := ev_aload_n cm_166 dX11_init_13 rfl rfl
theorem x166_14 : Ev L xs ρ 166 14 [l0] st σ r ↔ Ev L xs ρ 166 15 [l0] (.int (-1) :: st) σ r := ev_iconst cm_166 dX11_init_14 (by decide)
theorem x166_15 : Ev L xs ρ 166 15 [l0] (.int x :: .ref a :: st) (n, I, Lm, Rm) r ↔ (a < n ∧ shp a = (0, 11)) ∧ Ev L xs ρ 166 18 [l0] st (n, up2 I a 8 x, Lm, Rm) r := ev_ptI cm_166 dX11_init_15 rfl rfl (Or.inl rfl)
theorem x166_18 : Ev L xs ρ 166 18 [some (.ref a)] st σ r ↔ Ev L xs ρ 166 19 [some (.ref a)] (.ref a :: st) σ r := ev_aload_n cm_166 dX11_init_18 rfl rfl
theorem x166_19 : Ev L xs ρ 166 19 [l0] st σ r ↔ Ev L xs ρ 166 20 [l0] (.int (5) :: st) σ r := ev_iconst cm_166 dX11_init_19 (by decide)
theorem x166_20 : Ev L xs ρ 166 20 [l0] (.int x :: st) (n, I, Lm, Rm) r ↔ ((n < NNN ∧ (shp n).1 = 2) ∧ (0 ≤ x.toInt ∧ x.toInt = (shp n).2)) ∧ Ev L xs ρ 166 22 [l0] (.ref n :: st) (n + 1, zr2 I n 0, zr2 Lm n 0, zr2 Rm n 0) r := ev_nwc cm_166 dX11_init_20
theorem x166_22 : Ev L xs ρ 166 22 [l0] (.ref a :: st) σ r ↔ Ev L xs ρ 166 23 [l0] (.ref a :: .ref a :: st) σ r := ev_nx (ev_ex cm_166 dX11_init_22 rfl rfl)
theorem x166_23 : Ev L xs ρ 166 23 [l0] st σ r ↔ Ev L xs ρ 166 24 [l0] (.int (0) :: st) σ r := ev_iconst cm_166 dX11_init_23 (by decide)
theorem x166_24 : Ev L xs ρ 166 24 [l0] st σ r ↔ Ev L xs ρ 166 26 [l0] (.int (104) :: st) σ r := ev_bipush cm_166 dX11_init_24 (by decide)
theorem x166_26 : Ev L xs ρ 166 26 [l0] (.int y :: .int x :: .ref a :: st) (n, I, Lm, Rm) r ↔ ((a < n ∧ (shp a).1 = 2) ∧ inb x (shp a).2) ∧ (0 ≤ y.toInt ∧ y.toInt < 65536) ∧ Ev L xs ρ 166 27 [l0] st (n, up2 I a (ixn x) y, Lm, Rm) r := ev_cast cm_166 dX11_init_26
theorem x166_27 : Ev L xs ρ 166 27 [l0] (.ref a :: st) σ r ↔ Ev L xs ρ 166 28 [l0] (.ref a :: .ref a :: st) σ r := ev_nx (ev_ex cm_166 dX11_init_27 rfl rfl)
theorem x166_28 : Ev L xs ρ 166 28 [l0] st σ r ↔ Ev L xs ρ 166 29 [l0] (.int (1) :: st) σ r := ev_iconst cm_166 dX11_init_28 (by decide)
theorem x166_29 : Ev L xs ρ 166 29 [l0] st σ r ↔ Ev L xs ρ 166 31 [l0] (.int (111) :: st) σ r := ev_bipush cm_166 dX11_init_29 (by decide)
theorem x166_31 : Ev L xs ρ 166 31 [l0] (.int y :: .int x :: .ref a :: st) (n, I, Lm, Rm) r ↔ ((a < n ∧ (shp a).1 = 2) ∧ inb x (shp a).2) ∧ (0 ≤ y.toInt ∧ y.toInt < 65536) ∧ Ev L xs ρ 166 32 [l0] st (n, up2 I a (ixn x) y, Lm, Rm) r := ev_cast cm_166 dX11_init_31
theorem x166_32 : Ev L xs ρ 166 32 [l0] (.ref a :: st) σ r ↔ Ev L xs ρ 166 33 [l0] (.ref a :: .ref a :: st) σ r := ev_nx (ev_ex cm_166 dX11_init_32 rfl rfl)
theorem x166_33 : Ev L xs ρ 166 33 [l0] st σ r ↔ Ev L xs ρ 166 34 [l0] (.int (2) :: st) σ r := ev_iconst cm_166 dX11_init_33 (by decide)
theorem x166_34 : Ev L xs ρ 166 34 [l0] st σ r ↔ Ev L xs ρ 166 36 [l0] (.int (117) :: st) σ r := ev_bipush cm_166 dX11_init_34 (by decide)
theorem x166_36 : Ev L xs ρ 166 36 [l0] (.int y :: .int x :: .ref a :: st) (n, I, Lm, Rm) r ↔ ((a < n ∧ (shp a).1 = 2) ∧ inb x (shp a).2) ∧ (0 ≤ y.toInt ∧ y.toInt < 65536) ∧ Ev L xs ρ 166 37 [l0] st (n, up2 I a (ixn x) y, Lm, Rm) r := ev_cast cm_166 dX11_init_36
theorem x166_37 : Ev L xs ρ 166 37 [l0] (.ref a :: st) σ r ↔ Ev L xs ρ 166 38 [l0] (.ref a :: .ref a :: st) σ r := ev_nx (ev_ex cm_166 dX11_init_37 rfl rfl)
theorem x166_38 : Ev L xs ρ 166 38 [l0] st σ r ↔ Ev L xs ρ 166 39 [l0] (.int (3) :: st) σ r := ev_iconst cm_166 dX11_init_38 (by decide)
theorem x166_39 : Ev L xs ρ 166 39 [l0] st σ r ↔ Ev L xs ρ 166 41 [l0] (.int (114) :: st) σ r := ev_bipush cm_166 dX11_init_39 (by decide)
theorem x166_41 : Ev L xs ρ 166 41 [l0] (.int y :: .int x :: .ref a :: st) (n, I, Lm, Rm) r ↔ ((a < n ∧ (shp a).1 = 2) ∧ inb x (shp a).2) ∧ (0 ≤ y.toInt ∧ y.toInt < 65536) ∧ Ev L xs ρ 166 42 [l0] st (n, up2 I a (ixn x) y, Lm, Rm) r := ev_cast cm_166 dX11_init_41
theorem x166_42 : Ev L xs ρ 166 42 [l0] (.ref a :: st) σ r ↔ Ev L xs ρ 166 43 [l0] (.ref a :: .ref a :: st) σ r := ev_nx (ev_ex cm_166 dX11_init_42 rfl rfl)
theorem x166_43 : Ev L xs ρ 166 43 [l0] st σ r ↔ Ev L xs ρ 166 44 [l0] (.int (4) :: st) σ r := ev_iconst cm_166 dX11_init_43 (by decide)
theorem x166_44 : Ev L xs ρ 166 44 [l0] st σ r ↔ Ev L xs ρ 166 46 [l0] (.int (115) :: st) σ r := ev_bipush cm_166 dX11_init_44 (by decide)
theorem x166_46 : Ev L xs ρ 166 46 [l0] (.int y :: .int x :: .ref a :: st) (n, I, Lm, Rm) r ↔ ((a < n ∧ (shp a).1 = 2) ∧ inb x (shp a).2) ∧ (0 ≤ y.toInt ∧ y.toInt < 65536) ∧ Ev L xs ρ 166 47 [l0] st (n, up2 I a (ixn x) y, Lm, Rm) r := ev_cast cm_166 dX11_init_46
theorem x166_47 : Ev L xs ρ 166 47 [l0] (.ref b :: .ref a :: st) (n, I, Lm, Rm) r ↔ (a < n ∧ shp a = (0, 11)) ∧ Ev L xs ρ 166 50 [l0] st (n, I, Lm, up2 Rm a 9 (b + 1)) r := ev_ptR cm_166 dX11_init_47 rfl rfl (Or.inr ⟨rfl, rfl⟩)
theorem x166_50 : Ev L xs ρ 166 50 [some (.ref a)] st σ r ↔ Ev L xs ρ 166 51 [some (.ref a)] (.ref a :: st) σ r := ev_aload_n cm_166 dX11_init_50 rfl rfl
theorem x166_51 : Ev L xs ρ 166 51 [l0] st σ r ↔ Ev L xs ρ 166 52 [l0] (.int (4) :: st) σ r := ev_iconst cm_166 dX11_init_51 (by decide)
theorem x166_52 : Ev L xs ρ 166 52 [l0] (.int x :: st) (n, I, Lm, Rm) r ↔ ((n < NNN ∧ (shp n).1 = 2) ∧ (0 ≤ x.toInt ∧ x.toInt = (shp n).2)) ∧ Ev L xs ρ 166 54 [l0] (.ref n :: st) (n + 1, zr2 I n 0, zr2 Lm n 0, zr2 Rm n 0) r := ev_nwc cm_166 dX11_init_52
theorem x166_54 : Ev L xs ρ 166 54 [l0] (.ref a :: st) σ r ↔ Ev L xs ρ 166 55 [l0] (.ref a :: .ref a :: st) σ r := ev_nx (ev_ex cm_166 dX11_init_54 rfl rfl)
theorem x166_55 : Ev L xs ρ 166 55 [l0] st σ r ↔ Ev L xs ρ 166 56 [l0] (.int (0) :: st) σ r := ev_iconst cm_166 dX11_init_55 (by decide)
theorem x166_56 : Ev L xs ρ 166 56 [l0] st σ r ↔ Ev L xs ρ 166 58 [l0] (.int (115) :: st) σ r := ev_bipush cm_166 dX11_init_56 (by decide)
theorem x166_58 : Ev L xs ρ 166 58 [l0] (.int y :: .int x :: .ref a :: st) (n, I, Lm, Rm) r ↔ ((a < n ∧ (shp a).1 = 2) ∧ inb x (shp a).2) ∧ (0 ≤ y.toInt ∧ y.toInt < 65536) ∧ Ev L xs ρ 166 59 [l0] st (n, up2 I a (ixn x) y, Lm, Rm) r := ev_cast cm_166 dX11_init_58
theorem x166_59 : Ev L xs ρ 166 59 [l0] (.ref a :: st) σ r ↔ Ev L xs ρ 166 60 [l0] (.ref a :: .ref a :: st) σ r := ev_nx (ev_ex cm_166 dX11_init_59 rfl rfl)
theorem x166_60 : Ev L xs ρ 166 60 [l0] st σ r ↔ Ev L xs ρ 166 61 [l0] (.int (1) :: st) σ r := ev_iconst cm_166 dX11_init_60 (by decide)
theorem x166_61 : Ev L xs ρ 166 61 [l0] st σ r ↔ Ev L xs ρ 166 63 [l0] (.int (111) :: st) σ r := ev_bipush cm_166 dX11_init_61 (by decide)
theorem x166_63 : Ev L xs ρ 166 63 [l0] (.int y :: .int x :: .ref a :: st) (n, I, Lm, Rm) r ↔ ((a < n ∧ (shp a).1 = 2) ∧ inb x (shp a).2) ∧ (0 ≤ y.toInt ∧ y.toInt < 65536) ∧ Ev L xs ρ 166 64 [l0] st (n, up2 I a (ixn x) y, Lm, Rm) r := ev_cast cm_166 dX11_init_63
theorem x166_64 : Ev L xs ρ 166 64 [l0] (.ref a :: st) σ r ↔ Ev L xs ρ 166 65 [l0] (.ref a :: .ref a :: st) σ r := ev_nx (ev_ex cm_166 dX11_init_64 rfl rfl)
theorem x166_65 : Ev L xs ρ 166 65 [l0] st σ r ↔ Ev L xs ρ 166 66 [l0] (.int (2) :: st) σ r := ev_iconst cm_166 dX11_init_65 (by decide)
theorem x166_66 : Ev L xs ρ 166 66 [l0] st σ r ↔ Ev L xs ρ 166 68 [l0] (.int (114) :: st) σ r := ev_bipush cm_166 dX11_init_66 (by decide)
theorem x166_68 : Ev L xs ρ 166 68 [l0] (.int y :: .int x :: .ref a :: st) (n, I, Lm, Rm) r ↔ ((a < n ∧ (shp a).1 = 2) ∧ inb x (shp a).2) ∧ (0 ≤ y.toInt ∧ y.toInt < 65536) ∧ Ev L xs ρ 166 69 [l0] st (n, up2 I a (ixn x) y, Lm, Rm) r := ev_cast cm_166 dX11_init_68
theorem x166_69 : Ev L xs ρ 166 69 [l0] (.ref a :: st) σ r ↔ Ev L xs ρ 166 70 [l0] (.ref a :: .ref a :: st) σ r := ev_nx (ev_ex cm_166 dX11_init_69 rfl rfl)
theorem x166_70 : Ev L xs ρ 166 70 [l0] st σ r ↔ Ev L xs ρ 166 71 [l0] (.int (3) :: st) σ r := ev_iconst cm_166 dX11_init_70 (by decide)
theorem x166_71 : Ev L xs ρ 166 71 [l0] st σ r ↔ Ev L xs ρ 166 73 [l0] (.int (116) :: st) σ r := ev_bipush cm_166 dX11_init_71 (by decide)
theorem x166_73 : Ev L xs ρ 166 73 [l0] (.int y :: .int x :: .ref a :: st) (n, I, Lm, Rm) r ↔ ((a < n ∧ (shp a).1 = 2) ∧ inb x (shp a).2) ∧ (0 ≤ y.toInt ∧ y.toInt < 65536) ∧ Ev L xs ρ 166 74 [l0] st (n, up2 I a (ixn x) y, Lm, Rm) r := ev_cast cm_166 dX11_init_73
theorem x166_74 : Ev L xs ρ 166 74 [l0] (.ref b :: .ref a :: st) (n, I, Lm, Rm) r ↔ (a < n ∧ shp a = (0, 11)) ∧ Ev L xs ρ 166 77 [l0] st (n, I, Lm, up2 Rm a 10 (b + 1)) r := ev_ptR cm_166 dX11_init_74 rfl rfl (Or.inr ⟨rfl, rfl⟩)
theorem x166_77 : Ev L xs ρ 166 77 [some (.ref a)] st σ r ↔ Ev L xs ρ 166 78 [some (.ref a)] (.ref a :: st) σ r := ev_aload_n cm_166 dX11_init_77 rfl rfl
theorem x166_78 : Ev L xs ρ 166 78 [l0] st σ r ↔ Ev L xs ρ 166 80 [l0] (.int (6) :: st) σ r := ev_bipush cm_166 dX11_init_78 (by decide)
theorem x166_80 : Ev L xs ρ 166 80 [l0] (.int x :: st) (n, I, Lm, Rm) r ↔ ((n < NNN ∧ (shp n).1 = 2) ∧ (0 ≤ x.toInt ∧ x.toInt = (shp n).2)) ∧ Ev L xs ρ 166 82 [l0] (.ref n :: st) (n + 1, zr2 I n 0, zr2 Lm n 0, zr2 Rm n 0) r := ev_nwc cm_166 dX11_init_80
theorem x166_82 : Ev L xs ρ 166 82 [l0] (.ref a :: st) σ r ↔ Ev L xs ρ 166 83 [l0] (.ref a :: .ref a :: st) σ r := ev_nx (ev_ex cm_166 dX11_init_82 rfl rfl)
theorem x166_83 : Ev L xs ρ 166 83 [l0] st σ r ↔ Ev L xs ρ 166 84 [l0] (.int (0) :: st) σ r := ev_iconst cm_166 dX11_init_83 (by decide)
theorem x166_84 : Ev L xs ρ 166 84 [l0] st σ r ↔ Ev L xs ρ 166 86 [l0] (.int (98) :: st) σ r := ev_bipush cm_166 dX11_init_84 (by decide)
theorem x166_86 : Ev L xs ρ 166 86 [l0] (.int y :: .int x :: .ref a :: st) (n, I, Lm, Rm) r ↔ ((a < n ∧ (shp a).1 = 2) ∧ inb x (shp a).2) ∧ (0 ≤ y.toInt ∧ y.toInt < 65536) ∧ Ev L xs ρ 166 87 [l0] st (n, up2 I a (ixn x) y, Lm, Rm) r := ev_cast cm_166 dX11_init_86
theorem x166_87 : Ev L xs ρ 166 87 [l0] (.ref a :: st) σ r ↔ Ev L xs ρ 166 88 [l0] (.ref a :: .ref a :: st) σ r := ev_nx (ev_ex cm_166 dX11_init_87 rfl rfl)
theorem x166_88 : Ev L xs ρ 166 88 [l0] st σ r ↔ Ev L xs ρ 166 89 [l0] (.int (1) :: st) σ r := ev_iconst cm_166 dX11_init_88 (by decide)
theorem x166_89 : Ev L xs ρ 166 89 [l0] st σ r ↔ Ev L xs ρ 166 91 [l0] (.int (114) :: st) σ r := ev_bipush cm_166 dX11_init_89 (by decide)
theorem x166_91 : Ev L xs ρ 166 91 [l0] (.int y :: .int x :: .ref a :: st) (n, I, Lm, Rm) r ↔ ((a < n ∧ (shp a).1 = 2) ∧ inb x (shp a).2) ∧ (0 ≤ y.toInt ∧ y.toInt < 65536) ∧ Ev L xs ρ 166 92 [l0] st (n, up2 I a (ixn x) y, Lm, Rm) r := ev_cast cm_166 dX11_init_91
theorem x166_92 : Ev L xs ρ 166 92 [l0] (.ref a :: st) σ r ↔ Ev L xs ρ 166 93 [l0] (.ref a :: .ref a :: st) σ r := ev_nx (ev_ex cm_166 dX11_init_92 rfl rfl)
theorem x166_93 : Ev L xs ρ 166 93 [l0] st σ r ↔ Ev L xs ρ 166 94 [l0] (.int (2) :: st) σ r := ev_iconst cm_166 dX11_init_93 (by decide)
theorem x166_94 : Ev L xs ρ 166 94 [l0] st σ r ↔ Ev L xs ρ 166 96 [l0] (.int (105) :: st) σ r := ev_bipush cm_166 dX11_init_94 (by decide)
theorem x166_96 : Ev L xs ρ 166 96 [l0] (.int y :: .int x :: .ref a :: st) (n, I, Lm, Rm) r ↔ ((a < n ∧ (shp a).1 = 2) ∧ inb x (shp a).2) ∧ (0 ≤ y.toInt ∧ y.toInt < 65536) ∧ Ev L xs ρ 166 97 [l0] st (n, up2 I a (ixn x) y, Lm, Rm) r := ev_cast cm_166 dX11_init_96
theorem x166_97 : Ev L xs ρ 166 97 [l0] (.ref a :: st) σ r ↔ Ev L xs ρ 166 98 [l0] (.ref a :: .ref a :: st) σ r := ev_nx (ev_ex cm_166 dX11_init_97 rfl rfl)
theorem x166_98 : Ev L xs ρ 166 98 [l0] st σ r ↔ Ev L xs ρ 166 99 [l0] (.int (3) :: st) σ r := ev_iconst cm_166 dX11_init_98 (by decide)
theorem x166_99 : Ev L xs ρ 166 99 [l0] st σ r ↔ Ev L xs ρ 166 101 [l0] (.int (110) :: st) σ r := ev_bipush cm_166 dX11_init_99 (by decide)
theorem x166_101 : Ev L xs ρ 166 101 [l0] (.int y :: .int x :: .ref a :: st) (n, I, Lm, Rm) r ↔ ((a < n ∧ (shp a).1 = 2) ∧ inb x (shp a).2) ∧ (0 ≤ y.toInt ∧ y.toInt < 65536) ∧ Ev L xs ρ 166 102 [l0] st (n, up2 I a (ixn x) y, Lm, Rm) r := ev_cast cm_166 dX11_init_101
theorem x166_102 : Ev L xs ρ 166 102 [l0] (.ref a :: st) σ r ↔ Ev L xs ρ 166 103 [l0] (.ref a :: .ref a :: st) σ r := ev_nx (ev_ex cm_166 dX11_init_102 rfl rfl)
theorem x166_103 : Ev L xs ρ 166 103 [l0] st σ r ↔ Ev L xs ρ 166 104 [l0] (.int (4) :: st) σ r := ev_iconst cm_166 dX11_init_103 (by decide)
theorem x166_104 : Ev L xs ρ 166 104 [l0] st σ r ↔ Ev L xs ρ 166 106 [l0] (.int (103) :: st) σ r := ev_bipush cm_166 dX11_init_104 (by decide)
theorem x166_106 : Ev L xs ρ 166 106 [l0] (.int y :: .int x :: .ref a :: st) (n, I, Lm, Rm) r ↔ ((a < n ∧ (shp a).1 = 2) ∧ inb x (shp a).2) ∧ (0 ≤ y.toInt ∧ y.toInt < 65536) ∧ Ev L xs ρ 166 107 [l0] st (n, up2 I a (ixn x) y, Lm, Rm) r := ev_cast cm_166 dX11_init_106
theorem x166_107 : Ev L xs ρ 166 107 [l0] (.ref a :: st) σ r ↔ Ev L xs ρ 166 108 [l0] (.ref a :: .ref a :: st) σ r := ev_nx (ev_ex cm_166 dX11_init_107 rfl rfl)
theorem x166_108 : Ev L xs ρ 166 108 [l0] st σ r ↔ Ev L xs ρ 166 109 [l0] (.int (5) :: st) σ r := ev_iconst cm_166 dX11_init_108 (by decide)
theorem x166_109 : Ev L xs ρ 166 109 [l0] st σ r ↔ Ev L xs ρ 166 111 [l0] (.int (115) :: st) σ r := ev_bipush cm_166 dX11_init_109 (by decide)
theorem x166_111 : Ev L xs ρ 166 111 [l0] (.int y :: .int x :: .ref a :: st) (n, I, Lm, Rm) r ↔ ((a < n ∧ (shp a).1 = 2) ∧ inb x (shp a).2) ∧ (0 ≤ y.toInt ∧ y.toInt < 65536) ∧ Ev L xs ρ 166 112 [l0] st (n, up2 I a (ixn x) y, Lm, Rm) r := ev_cast cm_166 dX11_init_111
theorem x166_112 : Ev L xs ρ 166 112 [l0] (.ref b :: .ref a :: st) (n, I, Lm, Rm) r ↔ (a < n ∧ shp a = (0, 11)) ∧ Ev L xs ρ 166 115 [l0] st (n, I, Lm, up2 Rm a 11 (b + 1)) r := ev_ptR cm_166 dX11_init_112 rfl rfl (Or.inr ⟨rfl, rfl⟩)
theorem x166_115 : Ev L xs ρ 166 115 [some (.ref a)] st σ r ↔ Ev L xs ρ 166 116 [some (.ref a)] (.ref a :: st) σ r := ev_aload_n cm_166 dX11_init_115 rfl rfl
theorem x166_116 : Ev L xs ρ 166 116 [l0] st σ r ↔ Ev L xs ρ 166 117 [l0] (.int (5) :: st) σ r := ev_iconst cm_166 dX11_init_116 (by decide)
theorem x166_117 : Ev L xs ρ 166 117 [l0] (.int x :: st) (n, I, Lm, Rm) r ↔ ((n < NNN ∧ (shp n).1 = 2) ∧ (0 ≤ x.toInt ∧ x.toInt = (shp n).2)) ∧ Ev L xs ρ 166 119 [l0] (.ref n :: st) (n + 1, zr2 I n 0, zr2 Lm n 0, zr2 Rm n 0) r := ev_nwc cm_166 dX11_init_117
theorem x166_119 : Ev L xs ρ 166 119 [l0] (.ref a :: st) σ r ↔ Ev L xs ρ 166 120 [l0] (.ref a :: .ref a :: st) σ r := ev_nx (ev_ex cm_166 dX11_init_119 rfl rfl)
theorem x166_120 : Ev L xs ρ 166 120 [l0] st σ r ↔ Ev L xs ρ 166 121 [l0] (.int (0) :: st) σ r := ev_iconst cm_166 dX11_init_120 (by decide)
theorem x166_121 : Ev L xs ρ 166 121 [l0] st σ r ↔ Ev L xs ρ 166 123 [l0] (.int (116) :: st) σ r := ev_bipush cm_166 dX11_init_121 (by decide)
theorem x166_123 : Ev L xs ρ 166 123 [l0] (.int y :: .int x :: .ref a :: st) (n, I, Lm, Rm) r ↔ ((a < n ∧ (shp a).1 = 2) ∧ inb x (shp a).2) ∧ (0 ≤ y.toInt ∧ y.toInt < 65536) ∧ Ev L xs ρ 166 124 [l0] st (n, up2 I a (ixn x) y, Lm, Rm) r := ev_cast cm_166 dX11_init_123
theorem x166_124 : Ev L xs ρ 166 124 [l0] (.ref a :: st) σ r ↔ Ev L xs ρ 166 125 [l0] (.ref a :: .ref a :: st) σ r := ev_nx (ev_ex cm_166 dX11_init_124 rfl rfl)
theorem x166_125 : Ev L xs ρ 166 125 [l0] st σ r ↔ Ev L xs ρ 166 126 [l0] (.int (1) :: st) σ r := ev_iconst cm_166 dX11_init_125 (by decide)
theorem x166_126 : Ev L xs ρ 166 126 [l0] st σ r ↔ Ev L xs ρ 166 128 [l0] (.int (105) :: st) σ r := ev_bipush cm_166 dX11_init_126 (by decide)
theorem x166_128 : Ev L xs ρ 166 128 [l0] (.int y :: .int x :: .ref a :: st) (n, I, Lm, Rm) r ↔ ((a < n ∧ (shp a).1 = 2) ∧ inb x (shp a).2) ∧ (0 ≤ y.toInt ∧ y.toInt < 65536) ∧ Ev L xs ρ 166 129 [l0] st (n, up2 I a (ixn x) y, Lm, Rm) r := ev_cast cm_166 dX11_init_128
theorem x166_129 : Ev L xs ρ 166 129 [l0] (.ref a :: st) σ r ↔ Ev L xs ρ 166 130 [l0] (.ref a :: .ref a :: st) σ r := ev_nx (ev_ex cm_166 dX11_init_129 rfl rfl)
theorem x166_130 : Ev L xs ρ 166 130 [l0] st σ r ↔ Ev L xs ρ 166 131 [l0] (.int (2) :: st) σ r := ev_iconst cm_166 dX11_init_130 (by decide)
theorem x166_131 : Ev L xs ρ 166 131 [l0] st σ r ↔ Ev L xs ρ 166 133 [l0] (.int (114) :: st) σ r := ev_bipush cm_166 dX11_init_131 (by decide)
theorem x166_133 : Ev L xs ρ 166 133 [l0] (.int y :: .int x :: .ref a :: st) (n, I, Lm, Rm) r ↔ ((a < n ∧ (shp a).1 = 2) ∧ inb x (shp a).2) ∧ (0 ≤ y.toInt ∧ y.toInt < 65536) ∧ Ev L xs ρ 166 134 [l0] st (n, up2 I a (ixn x) y, Lm, Rm) r := ev_cast cm_166 dX11_init_133
theorem x166_134 : Ev L xs ρ 166 134 [l0] (.ref a :: st) σ r ↔ Ev L xs ρ 166 135 [l0] (.ref a :: .ref a :: st) σ r := ev_nx (ev_ex cm_166 dX11_init_134 rfl rfl)
theorem x166_135 : Ev L xs ρ 166 135 [l0] st σ r ↔ Ev L xs ρ 166 136 [l0] (.int (3) :: st) σ r := ev_iconst cm_166 dX11_init_135 (by decide)
theorem x166_136 : Ev L xs ρ 166 136 [l0] st σ r ↔ Ev L xs ρ 166 138 [l0] (.int (101) :: st) σ r := ev_bipush cm_166 dX11_init_136 (by decide)
theorem x166_138 : Ev L xs ρ 166 138 [l0] (.int y :: .int x :: .ref a :: st) (n, I, Lm, Rm) r ↔ ((a < n ∧ (shp a).1 = 2) ∧ inb x (shp a).2) ∧ (0 ≤ y.toInt ∧ y.toInt < 65536) ∧ Ev L xs ρ 166 139 [l0] st (n, up2 I a (ixn x) y, Lm, Rm) r := ev_cast cm_166 dX11_init_138
theorem x166_139 : Ev L xs ρ 166 139 [l0] (.ref a :: st) σ r ↔ Ev L xs ρ 166 140 [l0] (.ref a :: .ref a :: st) σ r := ev_nx (ev_ex cm_166 dX11_init_139 rfl rfl)
theorem x166_140 : Ev L xs ρ 166 140 [l0] st σ r ↔ Ev L xs ρ 166 141 [l0] (.int (4) :: st) σ r := ev_iconst cm_166 dX11_init_140 (by decide)
theorem x166_141 : Ev L xs ρ 166 141 [l0] st σ r ↔ Ev L xs ρ 166 143 [l0] (.int (115) :: st) σ r := ev_bipush cm_166 dX11_init_141 (by decide)
theorem x166_143 : Ev L xs ρ 166 143 [l0] (.int y :: .int x :: .ref a :: st) (n, I, Lm, Rm) r ↔ ((a < n ∧ (shp a).1 = 2) ∧ inb x (shp a).2) ∧ (0 ≤ y.toInt ∧ y.toInt < 65536) ∧ Ev L xs ρ 166 144 [l0] st (n, up2 I a (ixn x) y, Lm, Rm) r := ev_cast cm_166 dX11_init_143
theorem x166_144 : Ev L xs ρ 166 144 [l0] (.ref b :: .ref a :: st) (n, I, Lm, Rm) r ↔ (a < n ∧ shp a = (0, 11)) ∧ Ev L xs ρ 166 147 [l0] st (n, I, Lm, up2 Rm a 12 (b + 1)) r := ev_ptR cm_166 dX11_init_144 rfl rfl (Or.inr ⟨rfl, rfl⟩)
theorem x166_147 : Ev L xs ρ 166 147 [some (.ref a)] st σ r ↔ Ev L xs ρ 166 148 [some (.ref a)] (.ref a :: st) σ r := ev_aload_n cm_166 dX11_init_147 rfl rfl
theorem x166_148 : Ev L xs ρ 166 148 [l0] st σ r ↔ Ev L xs ρ 166 149 [l0] (.int (4) :: st) σ r := ev_iconst cm_166 dX11_init_148 (by decide)
theorem x166_149 : Ev L xs ρ 166 149 [l0] (.int x :: st) (n, I, Lm, Rm) r ↔ ((n < NNN ∧ (shp n).1 = 2) ∧ (0 ≤ x.toInt ∧ x.toInt = (shp n).2)) ∧ Ev L xs ρ 166 151 [l0] (.ref n :: st) (n + 1, zr2 I n 0, zr2 Lm n 0, zr2 Rm n 0) r := ev_nwc cm_166 dX11_init_149
theorem x166_151 : Ev L xs ρ 166 151 [l0] (.ref a :: st) σ r ↔ Ev L xs ρ 166 152 [l0] (.ref a :: .ref a :: st) σ r := ev_nx (ev_ex cm_166 dX11_init_151 rfl rfl)
theorem x166_152 : Ev L xs ρ 166 152 [l0] st σ r ↔ Ev L xs ρ 166 153 [l0] (.int (0) :: st) σ r := ev_iconst cm_166 dX11_init_152 (by decide)
theorem x166_153 : Ev L xs ρ 166 153 [l0] st σ r ↔ Ev L xs ρ 166 155 [l0] (.int (109) :: st) σ r := ev_bipush cm_166 dX11_init_153 (by decide)
theorem x166_155 : Ev L xs ρ 166 155 [l0] (.int y :: .int x :: .ref a :: st) (n, I, Lm, Rm) r ↔ ((a < n ∧ (shp a).1 = 2) ∧ inb x (shp a).2) ∧ (0 ≤ y.toInt ∧ y.toInt < 65536) ∧ Ev L xs ρ 166 156 [l0] st (n, up2 I a (ixn x) y, Lm, Rm) r := ev_cast cm_166 dX11_init_155
theorem x166_156 : Ev L xs ρ 166 156 [l0] (.ref a :: st) σ r ↔ Ev L xs ρ 166 157 [l0] (.ref a :: .ref a :: st) σ r := ev_nx (ev_ex cm_166 dX11_init_156 rfl rfl)
theorem x166_157 : Ev L xs ρ 166 157 [l0] st σ r ↔ Ev L xs ρ 166 158 [l0] (.int (1) :: st) σ r := ev_iconst cm_166 dX11_init_157 (by decide)
theorem x166_158 : Ev L xs ρ 166 158 [l0] st σ r ↔ Ev L xs ρ 166 160 [l0] (.int (105) :: st) σ r := ev_bipush cm_166 dX11_init_158 (by decide)
theorem x166_160 : Ev L xs ρ 166 160 [l0] (.int y :: .int x :: .ref a :: st) (n, I, Lm, Rm) r ↔ ((a < n ∧ (shp a).1 = 2) ∧ inb x (shp a).2) ∧ (0 ≤ y.toInt ∧ y.toInt < 65536) ∧ Ev L xs ρ 166 161 [l0] st (n, up2 I a (ixn x) y, Lm, Rm) r := ev_cast cm_166 dX11_init_160
theorem x166_161 : Ev L xs ρ 166 161 [l0] (.ref a :: st) σ r ↔ Ev L xs ρ 166 162 [l0] (.ref a :: .ref a :: st) σ r := ev_nx (ev_ex cm_166 dX11_init_161 rfl rfl)
theorem x166_162 : Ev L xs ρ 166 162 [l0] st σ r ↔ Ev L xs ρ 166 163 [l0] (.int (2) :: st) σ r := ev_iconst cm_166 dX11_init_162 (by decide)
theorem x166_163 : Ev L xs ρ 166 163 [l0] st σ r ↔ Ev L xs ρ 166 165 [l0] (.int (110) :: st) σ r := ev_bipush cm_166 dX11_init_163 (by decide)
theorem x166_165 : Ev L xs ρ 166 165 [l0] (.int y :: .int x :: .ref a :: st) (n, I, Lm, Rm) r ↔ ((a < n ∧ (shp a).1 = 2) ∧ inb x (shp a).2) ∧ (0 ≤ y.toInt ∧ y.toInt < 65536) ∧ Ev L xs ρ 166 166 [l0] st (n, up2 I a (ixn x) y, Lm, Rm) r := ev_cast cm_166 dX11_init_165
theorem x166_166 : Ev L xs ρ 166 166 [l0] (.ref a :: st) σ r ↔ Ev L xs ρ 166 167 [l0] (.ref a :: .ref a :: st) σ r := ev_nx (ev_ex cm_166 dX11_init_166 rfl rfl)
theorem x166_167 : Ev L xs ρ 166 167 [l0] st σ r ↔ Ev L xs ρ 166 168 [l0] (.int (3) :: st) σ r := ev_iconst cm_166 dX11_init_167 (by decide)
theorem x166_168 : Ev L xs ρ 166 168 [l0] st σ r ↔ Ev L xs ρ 166 170 [l0] (.int (100) :: st) σ r := ev_bipush cm_166 dX11_init_168 (by decide)
theorem x166_170 : Ev L xs ρ 166 170 [l0] (.int y :: .int x :: .ref a :: st) (n, I, Lm, Rm) r ↔ ((a < n ∧ (shp a).1 = 2) ∧ inb x (shp a).2) ∧ (0 ≤ y.toInt ∧ y.toInt < 65536) ∧ Ev L xs ρ 166 171 [l0] st (n, up2 I a (ixn x) y, Lm, Rm) r := ev_cast cm_166 dX11_init_170
theorem x166_171 : Ev L xs ρ 166 171 [l0] (.ref b :: .ref a :: st) (n, I, Lm, Rm) r ↔ (a < n ∧ shp a = (0, 11)) ∧ Ev L xs ρ 166 174 [l0] st (n, I, Lm, up2 Rm a 13 (b + 1)) r := ev_ptR cm_166 dX11_init_171 rfl rfl (Or.inr ⟨rfl, rfl⟩)
theorem x166_174 : Ev L xs ρ 166 174 [some (.ref a)] st σ r ↔ Ev L xs ρ 166 175 [some (.ref a)] (.ref a :: st) σ r := ev_aload_n cm_166 dX11_init_174 rfl rfl
theorem x166_175 : Ev L xs ρ 166 175 [l0] st σ r ↔ Ev L xs ρ 166 176 [l0] (.int (5) :: st) σ r := ev_iconst cm_166 dX11_init_175 (by decide)
theorem x166_176 : Ev L xs ρ 166 176 [l0] (.int x :: st) (n, I, Lm, Rm) r ↔ ((n < NNN ∧ (shp n).1 = 2) ∧ (0 ≤ x.toInt ∧ x.toInt = (shp n).2)) ∧ Ev L xs ρ 166 178 [l0] (.ref n :: st) (n + 1, zr2 I n 0, zr2 Lm n 0, zr2 Rm n 0) r := ev_nwc cm_166 dX11_init_176
theorem x166_178 : Ev L xs ρ 166 178 [l0] (.ref a :: st) σ r ↔ Ev L xs ρ 166 179 [l0] (.ref a :: .ref a :: st) σ r := ev_nx (ev_ex cm_166 dX11_init_178 rfl rfl)
theorem x166_179 : Ev L xs ρ 166 179 [l0] st σ r ↔ Ev L xs ρ 166 180 [l0] (.int (0) :: st) σ r := ev_iconst cm_166 dX11_init_179 (by decide)
theorem x166_180 : Ev L xs ρ 166 180 [l0] st σ r ↔ Ev L xs ρ 166 182 [l0] (.int (112) :: st) σ r := ev_bipush cm_166 dX11_init_180 (by decide)
theorem x166_182 : Ev L xs ρ 166 182 [l0] (.int y :: .int x :: .ref a :: st) (n, I, Lm, Rm) r ↔ ((a < n ∧ (shp a).1 = 2) ∧ inb x (shp a).2) ∧ (0 ≤ y.toInt ∧ y.toInt < 65536) ∧ Ev L xs ρ 166 183 [l0] st (n, up2 I a (ixn x) y, Lm, Rm) r := ev_cast cm_166 dX11_init_182
theorem x166_183 : Ev L xs ρ 166 183 [l0] (.ref a :: st) σ r ↔ Ev L xs ρ 166 184 [l0] (.ref a :: .ref a :: st) σ r := ev_nx (ev_ex cm_166 dX11_init_183 rfl rfl)
theorem x166_184 : Ev L xs ρ 166 184 [l0] st σ r ↔ Ev L xs ρ 166 185 [l0] (.int (1) :: st) σ r := ev_iconst cm_166 dX11_init_184 (by decide)
theorem x166_185 : Ev L xs ρ 166 185 [l0] st σ r ↔ Ev L xs ρ 166 187 [l0] (.int (114) :: st) σ r := ev_bipush cm_166 dX11_init_185 (by decide)
theorem x166_187 : Ev L xs ρ 166 187 [l0] (.int y :: .int x :: .ref a :: st) (n, I, Lm, Rm) r ↔ ((a < n ∧ (shp a).1 = 2) ∧ inb x (shp a).2) ∧ (0 ≤ y.toInt ∧ y.toInt < 65536) ∧ Ev L xs ρ 166 188 [l0] st (n, up2 I a (ixn x) y, Lm, Rm) r := ev_cast cm_166 dX11_init_187
theorem x166_188 : Ev L xs ρ 166 188 [l0] (.ref a :: st) σ r ↔ Ev L xs ρ 166 189 [l0] (.ref a :: .ref a :: st) σ r := ev_nx (ev_ex cm_166 dX11_init_188 rfl rfl)
theorem x166_189 : Ev L xs ρ 166 189 [l0] st σ r ↔ Ev L xs ρ 166 190 [l0] (.int (2) :: st) σ r := ev_iconst cm_166 dX11_init_189 (by decide)
theorem x166_190 : Ev L xs ρ 166 190 [l0] st σ r ↔ Ev L xs ρ 166 192 [l0] (.int (105) :: st) σ r := ev_bipush cm_166 dX11_init_190 (by decide)
theorem x166_192 : Ev L xs ρ 166 192 [l0] (.int y :: .int x :: .ref a :: st) (n, I, Lm, Rm) r ↔ ((a < n ∧ (shp a).1 = 2) ∧ inb x (shp a).2) ∧ (0 ≤ y.toInt ∧ y.toInt < 65536) ∧ Ev L xs ρ 166 193 [l0] st (n, up2 I a (ixn x) y, Lm, Rm) r := ev_cast cm_166 dX11_init_192
theorem x166_193 : Ev L xs ρ 166 193 [l0] (.ref a :: st) σ r ↔ Ev L xs ρ 166 194 [l0] (.ref a :: .ref a :: st) σ r := ev_nx (ev_ex cm_166 dX11_init_193 rfl rfl)
theorem x166_194 : Ev L xs ρ 166 194 [l0] st σ r ↔ Ev L xs ρ 166 195 [l0] (.int (3) :: st) σ r := ev_iconst cm_166 dX11_init_194 (by decide)
theorem x166_195 : Ev L xs ρ 166 195 [l0] st σ r ↔ Ev L xs ρ 166 197 [l0] (.int (100) :: st) σ r := ev_bipush cm_166 dX11_init_195 (by decide)
theorem x166_197 : Ev L xs ρ 166 197 [l0] (.int y :: .int x :: .ref a :: st) (n, I, Lm, Rm) r ↔ ((a < n ∧ (shp a).1 = 2) ∧ inb x (shp a).2) ∧ (0 ≤ y.toInt ∧ y.toInt < 65536) ∧ Ev L xs ρ 166 198 [l0] st (n, up2 I a (ixn x) y, Lm, Rm) r := ev_cast cm_166 dX11_init_197
theorem x166_198 : Ev L xs ρ 166 198 [l0] (.ref a :: st) σ r ↔ Ev L xs ρ 166 199 [l0] (.ref a :: .ref a :: st) σ r := ev_nx (ev_ex cm_166 dX11_init_198 rfl rfl)
theorem x166_199 : Ev L xs ρ 166 199 [l0] st σ r ↔ Ev L xs ρ 166 200 [l0] (.int (4) :: st) σ r := ev_iconst cm_166 dX11_init_199 (by decide)
theorem x166_200 : Ev L xs ρ 166 200 [l0] st σ r ↔ Ev L xs ρ 166 202 [l0] (.int (101) :: st) σ r := ev_bipush cm_166 dX11_init_200 (by decide)
theorem x166_202 : Ev L xs ρ 166 202 [l0] (.int y :: .int x :: .ref a :: st) (n, I, Lm, Rm) r ↔ ((a < n ∧ (shp a).1 = 2) ∧ inb x (shp a).2) ∧ (0 ≤ y.toInt ∧ y.toInt < 65536) ∧ Ev L xs ρ 166 203 [l0] st (n, up2 I a (ixn x) y, Lm, Rm) r := ev_cast cm_166 dX11_init_202
theorem x166_203 : Ev L xs ρ 166 203 [l0] (.ref b :: .ref a :: st) (n, I, Lm, Rm) r ↔ (a < n ∧ shp a = (0, 11)) ∧ Ev L xs ρ 166 206 [l0] st (n, I, Lm, up2 Rm a 14 (b + 1)) r := ev_ptR cm_166 dX11_init_203 rfl rfl (Or.inr ⟨rfl, rfl⟩)
theorem x166_206 : Ev L xs ρ 166 206 [some (.ref a)] st σ r ↔ Ev L xs ρ 166 207 [some (.ref a)] (.ref a :: st) σ r := ev_aload_n cm_166 dX11_init_206 rfl rfl
theorem x166_207 : Ev L xs ρ 166 207 [l0] st σ r ↔ Ev L xs ρ 166 208 [l0] (.int (4) :: st) σ r := ev_iconst cm_166 dX11_init_207 (by decide)
theorem x166_208 : Ev L xs ρ 166 208 [l0] (.int x :: st) (n, I, Lm, Rm) r ↔ ((n < NNN ∧ (shp n).1 = 2) ∧ (0 ≤ x.toInt ∧ x.toInt = (shp n).2)) ∧ Ev L xs ρ 166 210 [l0] (.ref n :: st) (n + 1, zr2 I n 0, zr2 Lm n 0, zr2 Rm n 0) r := ev_nwc cm_166 dX11_init_208
theorem x166_210 : Ev L xs ρ 166 210 [l0] (.ref a :: st) σ r ↔ Ev L xs ρ 166 211 [l0] (.ref a :: .ref a :: st) σ r := ev_nx (ev_ex cm_166 dX11_init_210 rfl rfl)
theorem x166_211 : Ev L xs ρ 166 211 [l0] st σ r ↔ Ev L xs ρ 166 212 [l0] (.int (0) :: st) σ r := ev_iconst cm_166 dX11_init_211 (by decide)
theorem x166_212 : Ev L xs ρ 166 212 [l0] st σ r ↔ Ev L xs ρ 166 214 [l0] (.int (110) :: st) σ r := ev_bipush cm_166 dX11_init_212 (by decide)
theorem x166_214 : Ev L xs ρ 166 214 [l0] (.int y :: .int x :: .ref a :: st) (n, I, Lm, Rm) r ↔ ((a < n ∧ (shp a).1 = 2) ∧ inb x (shp a).2) ∧ (0 ≤ y.toInt ∧ y.toInt < 65536) ∧ Ev L xs ρ 166 215 [l0] st (n, up2 I a (ixn x) y, Lm, Rm) r := ev_cast cm_166 dX11_init_214
theorem x166_215 : Ev L xs ρ 166 215 [l0] (.ref a :: st) σ r ↔ Ev L xs ρ 166 216 [l0] (.ref a :: .ref a :: st) σ r := ev_nx (ev_ex cm_166 dX11_init_215 rfl rfl)
theorem x166_216 : Ev L xs ρ 166 216 [l0] st σ r ↔ Ev L xs ρ 166 217 [l0] (.int (1) :: st) σ r := ev_iconst cm_166 dX11_init_216 (by decide)
theorem x166_217 : Ev L xs ρ 166 217 [l0] st σ r ↔ Ev L xs ρ 166 219 [l0] (.int (101) :: st) σ r := ev_bipush cm_166 dX11_init_217 (by decide)
theorem x166_219 : Ev L xs ρ 166 219 [l0] (.int y :: .int x :: .ref a :: st) (n, I, Lm, Rm) r ↔ ((a < n ∧ (shp a).1 = 2) ∧ inb x (shp a).2) ∧ (0 ≤ y.toInt ∧ y.toInt < 65536) ∧ Ev L xs ρ 166 220 [l0] st (n, up2 I a (ixn x) y, Lm, Rm) r := ev_cast cm_166 dX11_init_219
theorem x166_220 : Ev L xs ρ 166 220 [l0] (.ref a :: st) σ r ↔ Ev L xs ρ 166 221 [l0] (.ref a :: .ref a :: st) σ r := ev_nx (ev_ex cm_166 dX11_init_220 rfl rfl)
theorem x166_221 : Ev L xs ρ 166 221 [l0] st σ r ↔ Ev L xs ρ 166 222 [l0] (.int (2) :: st) σ r := ev_iconst cm_166 dX11_init_221 (by decide)
theorem x166_222 : Ev L xs ρ 166 222 [l0] st σ r ↔ Ev L xs ρ 166 224 [l0] (.int (101) :: st) σ r := ev_bipush cm_166 dX11_init_222 (by decide)
theorem x166_224 : Ev L xs ρ 166 224 [l0] (.int y :: .int x :: .ref a :: st) (n, I, Lm, Rm) r ↔ ((a < n ∧ (shp a).1 = 2) ∧ inb x (shp a).2) ∧ (0 ≤ y.toInt ∧ y.toInt < 65536) ∧ Ev L xs ρ 166 225 [l0] st (n, up2 I a (ixn x) y, Lm, Rm) r := ev_cast cm_166 dX11_init_224
theorem x166_225 : Ev L xs ρ 166 225 [l0] (.ref a :: st) σ r ↔ Ev L xs ρ 166 226 [l0] (.ref a :: .ref a :: st) σ r := ev_nx (ev_ex cm_166 dX11_init_225 rfl rfl)
theorem x166_226 : Ev L xs ρ 166 226 [l0] st σ r ↔ Ev L xs ρ 166 227 [l0] (.int (3) :: st) σ r := ev_iconst cm_166 dX11_init_226 (by decide)
theorem x166_227 : Ev L xs ρ 166 227 [l0] st σ r ↔ Ev L xs ρ 166 229 [l0] (.int (100) :: st) σ r := ev_bipush cm_166 dX11_init_227 (by decide)
theorem x166_229 : Ev L xs ρ 166 229 [l0] (.int y :: .int x :: .ref a :: st) (n, I, Lm, Rm) r ↔ ((a < n ∧ (shp a).1 = 2) ∧ inb x (shp a).2) ∧ (0 ≤ y.toInt ∧ y.toInt < 65536) ∧ Ev L xs ρ 166 230 [l0] st (n, up2 I a (ixn x) y, Lm, Rm) r := ev_cast cm_166 dX11_init_229
theorem x166_230 : Ev L xs ρ 166 230 [l0] (.ref b :: .ref a :: st) (n, I, Lm, Rm) r ↔ (a < n ∧ shp a = (0, 11)) ∧ Ev L xs ρ 166 233 [l0] st (n, I, Lm, up2 Rm a 15 (b + 1)) r := ev_ptR cm_166 dX11_init_230 rfl rfl (Or.inr ⟨rfl, rfl⟩)
theorem x166_233 : Ev L xs ρ 166 233 [some (.ref a)] st σ r ↔ Ev L xs ρ 166 234 [some (.ref a)] (.ref a :: st) σ r := ev_aload_n cm_166 dX11_init_233 rfl rfl
theorem x166_234 : Ev L xs ρ 166 234 [l0] st σ r ↔ Ev L xs ρ 166 235 [l0] (.int (3) :: st) σ r := ev_iconst cm_166 dX11_init_234 (by decide)
theorem x166_235 : Ev L xs ρ 166 235 [l0] (.int x :: st) (n, I, Lm, Rm) r ↔ ((n < NNN ∧ (shp n).1 = 2) ∧ (0 ≤ x.toInt ∧ x.toInt = (shp n).2)) ∧ Ev L xs ρ 166 237 [l0] (.ref n :: st) (n + 1, zr2 I n 0, zr2 Lm n 0, zr2 Rm n 0) r := ev_nwc cm_166 dX11_init_235
theorem x166_237 : Ev L xs ρ 166 237 [l0] (.ref a :: st) σ r ↔ Ev L xs ρ 166 238 [l0] (.ref a :: .ref a :: st) σ r := ev_nx (ev_ex cm_166 dX11_init_237 rfl rfl)
theorem x166_238 : Ev L xs ρ 166 238 [l0] st σ r ↔ Ev L xs ρ 166 239 [l0] (.int (0) :: st) σ r := ev_iconst cm_166 dX11_init_238 (by decide)
theorem x166_239 : Ev L xs ρ 166 239 [l0] st σ r ↔ Ev L xs ρ 166 241 [l0] (.int (104) :: st) σ r := ev_bipush cm_166 dX11_init_239 (by decide)
theorem x166_241 : Ev L xs ρ 166 241 [l0] (.int y :: .int x :: .ref a :: st) (n, I, Lm, Rm) r ↔ ((a < n ∧ (shp a).1 = 2) ∧ inb x (shp a).2) ∧ (0 ≤ y.toInt ∧ y.toInt < 65536) ∧ Ev L xs ρ 166 242 [l0] st (n, up2 I a (ixn x) y, Lm, Rm) r := ev_cast cm_166 dX11_init_241
theorem x166_242 : Ev L xs ρ 166 242 [l0] (.ref a :: st) σ r ↔ Ev L xs ρ 166 243 [l0] (.ref a :: .ref a :: st) σ r := ev_nx (ev_ex cm_166 dX11_init_242 rfl rfl)
theorem x166_243 : Ev L xs ρ 166 243 [l0] st σ r ↔ Ev L xs ρ 166 244 [l0] (.int (1) :: st) σ r := ev_iconst cm_166 dX11_init_243 (by decide)
theorem x166_244 : Ev L xs ρ 166 244 [l0] st σ r ↔ Ev L xs ρ 166 246 [l0] (.int (97) :: st) σ r := ev_bipush cm_166 dX11_init_244 (by decide)
theorem x166_246 : Ev L xs ρ 166 246 [l0] (.int y :: .int x :: .ref a :: st) (n, I, Lm, Rm) r ↔ ((a < n ∧ (shp a).1 = 2) ∧ inb x (shp a).2) ∧ (0 ≤ y.toInt ∧ y.toInt < 65536) ∧ Ev L xs ρ 166 247 [l0] st (n, up2 I a (ixn x) y, Lm, Rm) r := ev_cast cm_166 dX11_init_246
theorem x166_247 : Ev L xs ρ 166 247 [l0] (.ref a :: st) σ r ↔ Ev L xs ρ 166 248 [l0] (.ref a :: .ref a :: st) σ r := ev_nx (ev_ex cm_166 dX11_init_247 rfl rfl)
theorem x166_248 : Ev L xs ρ 166 248 [l0] st σ r ↔ Ev L xs ρ 166 249 [l0] (.int (2) :: st) σ r := ev_iconst cm_166 dX11_init_248 (by decide)
theorem x166_249 : Ev L xs ρ 166 249 [l0] st σ r ↔ Ev L xs ρ 166 251 [l0] (.int (116) :: st) σ r := ev_bipush cm_166 dX11_init_249 (by decide)
theorem x166_251 : Ev L xs ρ 166 251 [l0] (.int y :: .int x :: .ref a :: st) (n, I, Lm, Rm) r ↔ ((a < n ∧ (shp a).1 = 2) ∧ inb x (shp a).2) ∧ (0 ≤ y.toInt ∧ y.toInt < 65536) ∧ Ev L xs ρ 166 252 [l0] st (n, up2 I a (ixn x) y, Lm, Rm) r := ev_cast cm_166 dX11_init_251
theorem x166_252 : Ev L xs ρ 166 252 [l0] (.ref b :: .ref a :: st) (n, I, Lm, Rm) r ↔ (a < n ∧ shp a = (0, 11)) ∧ Ev L xs ρ 166 255 [l0] st (n, I, Lm, up2 Rm a 16 (b + 1)) r := ev_ptR cm_166 dX11_init_252 rfl rfl (Or.inr ⟨rfl, rfl⟩)
theorem x166_255 : Ev L xs ρ 166 255 [some (.ref a)] st σ r ↔ Ev L xs ρ 166 256 [some (.ref a)] (.ref a :: st) σ r := ev_aload_n cm_166 dX11_init_255 rfl rfl
theorem x166_256 : Ev L xs ρ 166 256 [l0] st σ r ↔ Ev L xs ρ 166 257 [l0] (.int (5) :: st) σ r := ev_iconst cm_166 dX11_init_256 (by decide)
theorem x166_257 : Ev L xs ρ 166 257 [l0] (.int x :: st) (n, I, Lm, Rm) r ↔ ((n < NNN ∧ (shp n).1 = 2) ∧ (0 ≤ x.toInt ∧ x.toInt = (shp n).2)) ∧ Ev L xs ρ 166 259 [l0] (.ref n :: st) (n + 1, zr2 I n 0, zr2 Lm n 0, zr2 Rm n 0) r := ev_nwc cm_166 dX11_init_257
theorem x166_259 : Ev L xs ρ 166 259 [l0] (.ref a :: st) σ r ↔ Ev L xs ρ 166 260 [l0] (.ref a :: .ref a :: st) σ r := ev_nx (ev_ex cm_166 dX11_init_259 rfl rfl)
theorem x166_260 : Ev L xs ρ 166 260 [l0] st σ r ↔ Ev L xs ρ 166 261 [l0] (.int (0) :: st) σ r := ev_iconst cm_166 dX11_init_260 (by decide)
theorem x166_261 : Ev L xs ρ 166 261 [l0] st σ r ↔ Ev L xs ρ 166 263 [l0] (.int (107) :: st) σ r := ev_bipush cm_166 dX11_init_261 (by decide)
theorem x166_263 : Ev L xs ρ 166 263 [l0] (.int y :: .int x :: .ref a :: st) (n, I, Lm, Rm) r ↔ ((a < n ∧ (shp a).1 = 2) ∧ inb x (shp a).2) ∧ (0 ≤ y.toInt ∧ y.toInt < 65536) ∧ Ev L xs ρ 166 264 [l0] st (n, up2 I a (ixn x) y, Lm, Rm) r := ev_cast cm_166 dX11_init_263
theorem x166_264 : Ev L xs ρ 166 264 [l0] (.ref a :: st) σ r ↔ Ev L xs ρ 166 265 [l0] (.ref a :: .ref a :: st) σ r := ev_nx (ev_ex cm_166 dX11_init_264 rfl rfl)
theorem x166_265 : Ev L xs ρ 166 265 [l0] st σ r ↔ Ev L xs ρ 166 266 [l0] (.int (1) :: st) σ r := ev_iconst cm_166 dX11_init_265 (by decide)
theorem x166_266 : Ev L xs ρ 166 266 [l0] st σ r ↔ Ev L xs ρ 166 268 [l0] (.int (101) :: st) σ r := ev_bipush cm_166 dX11_init_266 (by decide)
theorem x166_268 : Ev L xs ρ 166 268 [l0] (.int y :: .int x :: .ref a :: st) (n, I, Lm, Rm) r ↔ ((a < n ∧ (shp a).1 = 2) ∧ inb x (shp a).2) ∧ (0 ≤ y.toInt ∧ y.toInt < 65536) ∧ Ev L xs ρ 166 269 [l0] st (n, up2 I a (ixn x) y, Lm, Rm) r := ev_cast cm_166 dX11_init_268
theorem x166_269 : Ev L xs ρ 166 269 [l0] (.ref a :: st) σ r ↔ Ev L xs ρ 166 270 [l0] (.ref a :: .ref a :: st) σ r := ev_nx (ev_ex cm_166 dX11_init_269 rfl rfl)
theorem x166_270 : Ev L xs ρ 166 270 [l0] st σ r ↔ Ev L xs ρ 166 271 [l0] (.int (2) :: st) σ r := ev_iconst cm_166 dX11_init_270 (by decide)
theorem x166_271 : Ev L xs ρ 166 271 [l0] st σ r ↔ Ev L xs ρ 166 273 [l0] (.int (101) :: st) σ r := ev_bipush cm_166 dX11_init_271 (by decide)
theorem x166_273 : Ev L xs ρ 166 273 [l0] (.int y :: .int x :: .ref a :: st) (n, I, Lm, Rm) r ↔ ((a < n ∧ (shp a).1 = 2) ∧ inb x (shp a).2) ∧ (0 ≤ y.toInt ∧ y.toInt < 65536) ∧ Ev L xs ρ 166 274 [l0] st (n, up2 I a (ixn x) y, Lm, Rm) r := ev_cast cm_166 dX11_init_273
theorem x166_274 : Ev L xs ρ 166 274 [l0] (.ref a :: st) σ r ↔ Ev L xs ρ 166 275 [l0] (.ref a :: .ref a :: st) σ r := ev_nx (ev_ex cm_166 dX11_init_274 rfl rfl)
theorem x166_275 : Ev L xs ρ 166 275 [l0] st σ r ↔ Ev L xs ρ 166 276 [l0] (.int (3) :: st) σ r := ev_iconst cm_166 dX11_init_275 (by decide)
theorem x166_276 : Ev L xs ρ 166 276 [l0] st σ r ↔ Ev L xs ρ 166 278 [l0] (.int (112) :: st) σ r := ev_bipush cm_166 dX11_init_276 (by decide)
theorem x166_278 : Ev L xs ρ 166 278 [l0] (.int y :: .int x :: .ref a :: st) (n, I, Lm, Rm) r ↔ ((a < n ∧ (shp a).1 = 2) ∧ inb x (shp a).2) ∧ (0 ≤ y.toInt ∧ y.toInt < 65536) ∧ Ev L xs ρ 166 279 [l0] st (n, up2 I a (ixn x) y, Lm, Rm) r := ev_cast cm_166 dX11_init_278
theorem x166_279 : Ev L xs ρ 166 279 [l0] (.ref a :: st) σ r ↔ Ev L xs ρ 166 280 [l0] (.ref a :: .ref a :: st) σ r := ev_nx (ev_ex cm_166 dX11_init_279 rfl rfl)
theorem x166_280 : Ev L xs ρ 166 280 [l0] st σ r ↔ Ev L xs ρ 166 281 [l0] (.int (4) :: st) σ r := ev_iconst cm_166 dX11_init_280 (by decide)
theorem x166_281 : Ev L xs ρ 166 281 [l0] st σ r ↔ Ev L xs ρ 166 283 [l0] (.int (115) :: st) σ r := ev_bipush cm_166 dX11_init_281 (by decide)
theorem x166_283 : Ev L xs ρ 166 283 [l0] (.int y :: .int x :: .ref a :: st) (n, I, Lm, Rm) r ↔ ((a < n ∧ (shp a).1 = 2) ∧ inb x (shp a).2) ∧ (0 ≤ y.toInt ∧ y.toInt < 65536) ∧ Ev L xs ρ 166 284 [l0] st (n, up2 I a (ixn x) y, Lm, Rm) r := ev_cast cm_166 dX11_init_283
theorem x166_284 : Ev L xs ρ 166 284 [l0] (.ref b :: .ref a :: st) (n, I, Lm, Rm) r ↔ (a < n ∧ shp a = (0, 11)) ∧ Ev L xs ρ 166 287 [l0] st (n, I, Lm, up2 Rm a 17 (b + 1)) r := ev_ptR cm_166 dX11_init_284 rfl rfl (Or.inr ⟨rfl, rfl⟩)
theorem x166_287 : Ev L xs ρ 166 287 [some (.ref a)] st σ r ↔ Ev L xs ρ 166 288 [some (.ref a)] (.ref a :: st) σ r := ev_aload_n cm_166 dX11_init_287 rfl rfl
theorem x166_288 : Ev L xs ρ 166 288 [l0] st σ r ↔ Ev L xs ρ 166 289 [l0] (.int (5) :: st) σ r := ev_iconst cm_166 dX11_init_288 (by decide)
theorem x166_289 : Ev L xs ρ 166 289 [l0] (.int x :: st) (n, I, Lm, Rm) r ↔ ((n < NNN ∧ (shp n).1 = 2) ∧ (0 ≤ x.toInt ∧ x.toInt = (shp n).2)) ∧ Ev L xs ρ 166 291 [l0] (.ref n :: st) (n + 1, zr2 I n 0, zr2 Lm n 0, zr2 Rm n 0) r := ev_nwc cm_166 dX11_init_289
theorem x166_291 : Ev L xs ρ 166 291 [l0] (.ref a :: st) σ r ↔ Ev L xs ρ 166 292 [l0] (.ref a :: .ref a :: st) σ r := ev_nx (ev_ex cm_166 dX11_init_291 rfl rfl)
theorem x166_292 : Ev L xs ρ 166 292 [l0] st σ r ↔ Ev L xs ρ 166 293 [l0] (.int (0) :: st) σ r := ev_iconst cm_166 dX11_init_292 (by decide)
theorem x166_293 : Ev L xs ρ 166 293 [l0] st σ r ↔ Ev L xs ρ 166 295 [l0] (.int (108) :: st) σ r := ev_bipush cm_166 dX11_init_293 (by decide)
theorem x166_295 : Ev L xs ρ 166 295 [l0] (.int y :: .int x :: .ref a :: st) (n, I, Lm, Rm) r ↔ ((a < n ∧ (shp a).1 = 2) ∧ inb x (shp a).2) ∧ (0 ≤ y.toInt ∧ y.toInt < 65536) ∧ Ev L xs ρ 166 296 [l0] st (n, up2 I a (ixn x) y, Lm, Rm) r := ev_cast cm_166 dX11_init_295
theorem x166_296 : Ev L xs ρ 166 296 [l0] (.ref a :: st) σ r ↔ Ev L xs ρ 166 297 [l0] (.ref a :: .ref a :: st) σ r := ev_nx (ev_ex cm_166 dX11_init_296 rfl rfl)
theorem x166_297 : Ev L xs ρ 166 297 [l0] st σ r ↔ Ev L xs ρ 166 298 [l0] (.int (1) :: st) σ r := ev_iconst cm_166 dX11_init_297 (by decide)
theorem x166_298 : Ev L xs ρ 166 298 [l0] st σ r ↔ Ev L xs ρ 166 300 [l0] (.int (101) :: st) σ r := ev_bipush cm_166 dX11_init_298 (by decide)
theorem x166_300 : Ev L xs ρ 166 300 [l0] (.int y :: .int x :: .ref a :: st) (n, I, Lm, Rm) r ↔ ((a < n ∧ (shp a).1 = 2) ∧ inb x (shp a).2) ∧ (0 ≤ y.toInt ∧ y.toInt < 65536) ∧ Ev L xs ρ 166 301 [l0] st (n, up2 I a (ixn x) y, Lm, Rm) r := ev_cast cm_166 dX11_init_300
theorem x166_301 : Ev L xs ρ 166 301 [l0] (.ref a :: st) σ r ↔ Ev L xs ρ 166 302 [l0] (.ref a :: .ref a :: st) σ r := ev_nx (ev_ex cm_166 dX11_init_301 rfl rfl)
theorem x166_302 : Ev L xs ρ 166 302 [l0] st σ r ↔ Ev L xs ρ 166 303 [l0] (.int (2) :: st) σ r := ev_iconst cm_166 dX11_init_302 (by decide)
theorem x166_303 : Ev L xs ρ 166 303 [l0] st σ r ↔ Ev L xs ρ 166 305 [l0] (.int (97) :: st) σ r := ev_bipush cm_166 dX11_init_303 (by decide)
theorem x166_305 : Ev L xs ρ 166 305 [l0] (.int y :: .int x :: .ref a :: st) (n, I, Lm, Rm) r ↔ ((a < n ∧ (shp a).1 = 2) ∧ inb x (shp a).2) ∧ (0 ≤ y.toInt ∧ y.toInt < 65536) ∧ Ev L xs ρ 166 306 [l0] st (n, up2 I a (ixn x) y, Lm, Rm) r := ev_cast cm_166 dX11_init_305
theorem x166_306 : Ev L xs ρ 166 306 [l0] (.ref a :: st) σ r ↔ Ev L xs ρ 166 307 [l0] (.ref a :: .ref a :: st) σ r := ev_nx (ev_ex cm_166 dX11_init_306 rfl rfl)
theorem x166_307 : Ev L xs ρ 166 307 [l0] st σ r ↔ Ev L xs ρ 166 308 [l0] (.int (3) :: st) σ r := ev_iconst cm_166 dX11_init_307 (by decide)
theorem x166_308 : Ev L xs ρ 166 308 [l0] st σ r ↔ Ev L xs ρ 166 310 [l0] (.int (115) :: st) σ r := ev_bipush cm_166 dX11_init_308 (by decide)
theorem x166_310 : Ev L xs ρ 166 310 [l0] (.int y :: .int x :: .ref a :: st) (n, I, Lm, Rm) r ↔ ((a < n ∧ (shp a).1 = 2) ∧ inb x (shp a).2) ∧ (0 ≤ y.toInt ∧ y.toInt < 65536) ∧ Ev L xs ρ 166 311 [l0] st (n, up2 I a (ixn x) y, Lm, Rm) r := ev_cast cm_166 dX11_init_310
theorem x166_311 : Ev L xs ρ 166 311 [l0] (.ref a :: st) σ r ↔ Ev L xs ρ 166 312 [l0] (.ref a :: .ref a :: st) σ r := ev_nx (ev_ex cm_166 dX11_init_311 rfl rfl)
theorem x166_312 : Ev L xs ρ 166 312 [l0] st σ r ↔ Ev L xs ρ 166 313 [l0] (.int (4) :: st) σ r := ev_iconst cm_166 dX11_init_312 (by decide)
theorem x166_313 : Ev L xs ρ 166 313 [l0] st σ r ↔ Ev L xs ρ 166 315 [l0] (.int (116) :: st) σ r := ev_bipush cm_166 dX11_init_313 (by decide)
theorem x166_315 : Ev L xs ρ 166 315 [l0] (.int y :: .int x :: .ref a :: st) (n, I, Lm, Rm) r ↔ ((a < n ∧ (shp a).1 = 2) ∧ inb x (shp a).2) ∧ (0 ≤ y.toInt ∧ y.toInt < 65536) ∧ Ev L xs ρ 166 316 [l0] st (n, up2 I a (ixn x) y, Lm, Rm) r := ev_cast cm_166 dX11_init_315
theorem x166_316 : Ev L xs ρ 166 316 [l0] (.ref b :: .ref a :: st) (n, I, Lm, Rm) r ↔ (a < n ∧ shp a = (0, 11)) ∧ Ev L xs ρ 166 319 [l0] st (n, I, Lm, up2 Rm a 18 (b + 1)) r := ev_ptR cm_166 dX11_init_316 rfl rfl (Or.inr ⟨rfl, rfl⟩)
theorem x166_319 : Ev L xs ρ 166 319 [some (.ref a)] st σ r ↔ Ev L xs ρ 166 320 [some (.ref a)] (.ref a :: st) σ r := ev_aload_n cm_166 dX11_init_319 rfl rfl
theorem x166_320 : Ev L xs ρ 166 320 [l0] st σ r ↔ Ev L xs ρ 166 321 [l0] (.int (5) :: st) σ r := ev_iconst cm_166 dX11_init_320 (by decide)
theorem x166_321 : Ev L xs ρ 166 321 [l0] (.int x :: st) (n, I, Lm, Rm) r ↔ ((n < NNN ∧ (shp n).1 = 2) ∧ (0 ≤ x.toInt ∧ x.toInt = (shp n).2)) ∧ Ev L xs ρ 166 323 [l0] (.ref n :: st) (n + 1, zr2 I n 0, zr2 Lm n 0, zr2 Rm n 0) r := ev_nwc cm_166 dX11_init_321
theorem x166_323 : Ev L xs ρ 166 323 [l0] (.ref a :: st) σ r ↔ Ev L xs ρ 166 324 [l0] (.ref a :: .ref a :: st) σ r := ev_nx (ev_ex cm_166 dX11_init_323 rfl rfl)
theorem x166_324 : Ev L xs ρ 166 324 [l0] st σ r ↔ Ev L xs ρ 166 325 [l0] (.int (0) :: st) σ r := ev_iconst cm_166 dX11_init_324 (by decide)
theorem x166_325 : Ev L xs ρ 166 325 [l0] st σ r ↔ Ev L xs ρ 166 327 [l0] (.int (108) :: st) σ r := ev_bipush cm_166 dX11_init_325 (by decide)
theorem x166_327 : Ev L xs ρ 166 327 [l0] (.int y :: .int x :: .ref a :: st) (n, I, Lm, Rm) r ↔ ((a < n ∧ (shp a).1 = 2) ∧ inb x (shp a).2) ∧ (0 ≤ y.toInt ∧ y.toInt < 65536) ∧ Ev L xs ρ 166 328 [l0] st (n, up2 I a (ixn x) y, Lm, Rm) r := ev_cast cm_166 dX11_init_327
theorem x166_328 : Ev L xs ρ 166 328 [l0] (.ref a :: st) σ r ↔ Ev L xs ρ 166 329 [l0] (.ref a :: .ref a :: st) σ r := ev_nx (ev_ex cm_166 dX11_init_328 rfl rfl)
theorem x166_329 : Ev L xs ρ 166 329 [l0] st σ r ↔ Ev L xs ρ 166 330 [l0] (.int (1) :: st) σ r := ev_iconst cm_166 dX11_init_329 (by decide)
theorem x166_330 : Ev L xs ρ 166 330 [l0] st σ r ↔ Ev L xs ρ 166 332 [l0] (.int (111) :: st) σ r := ev_bipush cm_166 dX11_init_330 (by decide)
theorem x166_332 : Ev L xs ρ 166 332 [l0] (.int y :: .int x :: .ref a :: st) (n, I, Lm, Rm) r ↔ ((a < n ∧ (shp a).1 = 2) ∧ inb x (shp a).2) ∧ (0 ≤ y.toInt ∧ y.toInt < 65536) ∧ Ev L xs ρ 166 333 [l0] st (n, up2 I a (ixn x) y, Lm, Rm) r := ev_cast cm_166 dX11_init_332
theorem x166_333 : Ev L xs ρ 166 333 [l0] (.ref a :: st) σ r ↔ Ev L xs ρ 166 334 [l0] (.ref a :: .ref a :: st) σ r := ev_nx (ev_ex cm_166 dX11_init_333 rfl rfl)
theorem x166_334 : Ev L xs ρ 166 334 [l0] st σ r ↔ Ev L xs ρ 166 335 [l0] (.int (2) :: st) σ r := ev_iconst cm_166 dX11_init_334 (by decide)
theorem x166_335 : Ev L xs ρ 166 335 [l0] st σ r ↔ Ev L xs ρ 166 337 [l0] (.int (111) :: st) σ r := ev_bipush cm_166 dX11_init_335 (by decide)
theorem x166_337 : Ev L xs ρ 166 337 [l0] (.int y :: .int x :: .ref a :: st) (n, I, Lm, Rm) r ↔ ((a < n ∧ (shp a).1 = 2) ∧ inb x (shp a).2) ∧ (0 ≤ y.toInt ∧ y.toInt < 65536) ∧ Ev L xs ρ 166 338 [l0] st (n, up2 I a (ixn x) y, Lm, Rm) r := ev_cast cm_166 dX11_init_337
theorem x166_338 : Ev L xs ρ 166 338 [l0] (.ref a :: st) σ r ↔ Ev L xs ρ 166 339 [l0] (.ref a :: .ref a :: st) σ r := ev_nx (ev_ex cm_166 dX11_init_338 rfl rfl)
theorem x166_339 : Ev L xs ρ 166 339 [l0] st σ r ↔ Ev L xs ρ 166 340 [l0] (.int (3) :: st) σ r := ev_iconst cm_166 dX11_init_339 (by decide)
theorem x166_340 : Ev L xs ρ 166 340 [l0] st σ r ↔ Ev L xs ρ 166 342 [l0] (.int (107) :: st) σ r := ev_bipush cm_166 dX11_init_340 (by decide)
theorem x166_342 : Ev L xs ρ 166 342 [l0] (.int y :: .int x :: .ref a :: st) (n, I, Lm, Rm) r ↔ ((a < n ∧ (shp a).1 = 2) ∧ inb x (shp a).2) ∧ (0 ≤ y.toInt ∧ y.toInt < 65536) ∧ Ev L xs ρ 166 343 [l0] st (n, up2 I a (ixn x) y, Lm, Rm) r := ev_cast cm_166 dX11_init_342
theorem x166_343 : Ev L xs ρ 166 343 [l0] (.ref a :: st) σ r ↔ Ev L xs ρ 166 344 [l0] (.ref a :: .ref a :: st) σ r := ev_nx (ev_ex cm_166 dX11_init_343 rfl rfl)
theorem x166_344 : Ev L xs ρ 166 344 [l0] st σ r ↔ Ev L xs ρ 166 345 [l0] (.int (4) :: st) σ r := ev_iconst cm_166 dX11_init_344 (by decide)
theorem x166_345 : Ev L xs ρ 166 345 [l0] st σ r ↔ Ev L xs ρ 166 347 [l0] (.int (115) :: st) σ r := ev_bipush cm_166 dX11_init_345 (by decide)
theorem x166_347 : Ev L xs ρ 166 347 [l0] (.int y :: .int x :: .ref a :: st) (n, I, Lm, Rm) r ↔ ((a < n ∧ (shp a).1 = 2) ∧ inb x (shp a).2) ∧ (0 ≤ y.toInt ∧ y.toInt < 65536) ∧ Ev L xs ρ 166 348 [l0] st (n, up2 I a (ixn x) y, Lm, Rm) r := ev_cast cm_166 dX11_init_347
theorem x166_348 : Ev L xs ρ 166 348 [l0] (.ref b :: .ref a :: st) (n, I, Lm, Rm) r ↔ (a < n ∧ shp a = (0, 11)) ∧ Ev L xs ρ 166 351 [l0] st (n, I, Lm, up2 Rm a 19 (b + 1)) r := ev_ptR cm_166 dX11_init_348 rfl rfl (Or.inr ⟨rfl, rfl⟩)
theorem x166_351 : Ev L xs ρ 166 351 [some (.ref a)] st σ r ↔ Ev L xs ρ 166 352 [some (.ref a)] (.ref a :: st) σ r := ev_aload_n cm_166 dX11_init_351 rfl rfl
theorem x166_352 : Ev L xs ρ 166 352 [l0] st σ r ↔ Ev L xs ρ 166 353 [l0] (.int (5) :: st) σ r := ev_iconst cm_166 dX11_init_352 (by decide)
theorem x166_353 : Ev L xs ρ 166 353 [l0] (.int x :: st) (n, I, Lm, Rm) r ↔ ((n < NNN ∧ (shp n).1 = 2) ∧ (0 ≤ x.toInt ∧ x.toInt = (shp n).2)) ∧ Ev L xs ρ 166 355 [l0] (.ref n :: st) (n + 1, zr2 I n 0, zr2 Lm n 0, zr2 Rm n 0) r := ev_nwc cm_166 dX11_init_353
theorem x166_355 : Ev L xs ρ 166 355 [l0] (.ref a :: st) σ r ↔ Ev L xs ρ 166 356 [l0] (.ref a :: .ref a :: st) σ r := ev_nx (ev_ex cm_166 dX11_init_355 rfl rfl)
theorem x166_356 : Ev L xs ρ 166 356 [l0] st σ r ↔ Ev L xs ρ 166 357 [l0] (.int (0) :: st) σ r := ev_iconst cm_166 dX11_init_356 (by decide)
theorem x166_357 : Ev L xs ρ 166 357 [l0] st σ r ↔ Ev L xs ρ 166 359 [l0] (.int (97) :: st) σ r := ev_bipush cm_166 dX11_init_357 (by decide)
theorem x166_359 : Ev L xs ρ 166 359 [l0] (.int y :: .int x :: .ref a :: st) (n, I, Lm, Rm) r ↔ ((a < n ∧ (shp a).1 = 2) ∧ inb x (shp a).2) ∧ (0 ≤ y.toInt ∧ y.toInt < 65536) ∧ Ev L xs ρ 166 360 [l0] st (n, up2 I a (ixn x) y, Lm, Rm) r := ev_cast cm_166 dX11_init_359
theorem x166_360 : Ev L xs ρ 166 360 [l0] (.ref a :: st) σ r ↔ Ev L xs ρ 166 361 [l0] (.ref a :: .ref a :: st) σ r := ev_nx (ev_ex cm_166 dX11_init_360 rfl rfl)
theorem x166_361 : Ev L xs ρ 166 361 [l0] st σ r ↔ Ev L xs ρ 166 362 [l0] (.int (1) :: st) σ r := ev_iconst cm_166 dX11_init_361 (by decide)
theorem x166_362 : Ev L xs ρ 166 362 [l0] st σ r ↔ Ev L xs ρ 166 364 [l0] (.int (102) :: st) σ r := ev_bipush cm_166 dX11_init_362 (by decide)
theorem x166_364 : Ev L xs ρ 166 364 [l0] (.int y :: .int x :: .ref a :: st) (n, I, Lm, Rm) r ↔ ((a < n ∧ (shp a).1 = 2) ∧ inb x (shp a).2) ∧ (0 ≤ y.toInt ∧ y.toInt < 65536) ∧ Ev L xs ρ 166 365 [l0] st (n, up2 I a (ixn x) y, Lm, Rm) r := ev_cast cm_166 dX11_init_364
theorem x166_365 : Ev L xs ρ 166 365 [l0] (.ref a :: st) σ r ↔ Ev L xs ρ 166 366 [l0] (.ref a :: .ref a :: st) σ r := ev_nx (ev_ex cm_166 dX11_init_365 rfl rfl)
theorem x166_366 : Ev L xs ρ 166 366 [l0] st σ r ↔ Ev L xs ρ 166 367 [l0] (.int (2) :: st) σ r := ev_iconst cm_166 dX11_init_366 (by decide)
theorem x166_367 : Ev L xs ρ 166 367 [l0] st σ r ↔ Ev L xs ρ 166 369 [l0] (.int (116) :: st) σ r := ev_bipush cm_166 dX11_init_367 (by decide)
theorem x166_369 : Ev L xs ρ 166 369 [l0] (.int y :: .int x :: .ref a :: st) (n, I, Lm, Rm) r ↔ ((a < n ∧ (shp a).1 = 2) ∧ inb x (shp a).2) ∧ (0 ≤ y.toInt ∧ y.toInt < 65536) ∧ Ev L xs ρ 166 370 [l0] st (n, up2 I a (ixn x) y, Lm, Rm) r := ev_cast cm_166 dX11_init_369
theorem x166_370 : Ev L xs ρ 166 370 [l0] (.ref a :: st) σ r ↔ Ev L xs ρ 166 371 [l0] (.ref a :: .ref a :: st) σ r := ev_nx (ev_ex cm_166 dX11_init_370 rfl rfl)
theorem x166_371 : Ev L xs ρ 166 371 [l0] st σ r ↔ Ev L xs ρ 166 372 [l0] (.int (3) :: st) σ r := ev_iconst cm_166 dX11_init_371 (by decide)
theorem x166_372 : Ev L xs ρ 166 372 [l0] st σ r ↔ Ev L xs ρ 166 374 [l0] (.int (101) :: st) σ r := ev_bipush cm_166 dX11_init_372 (by decide)
theorem x166_374 : Ev L xs ρ 166 374 [l0] (.int y :: .int x :: .ref a :: st) (n, I, Lm, Rm) r ↔ ((a < n ∧ (shp a).1 = 2) ∧ inb x (shp a).2) ∧ (0 ≤ y.toInt ∧ y.toInt < 65536) ∧ Ev L xs ρ 166 375 [l0] st (n, up2 I a (ixn x) y, Lm, Rm) r := ev_cast cm_166 dX11_init_374
theorem x166_375 : Ev L xs ρ 166 375 [l0] (.ref a :: st) σ r ↔ Ev L xs ρ 166 376 [l0] (.ref a :: .ref a :: st) σ r := ev_nx (ev_ex cm_166 dX11_init_375 rfl rfl)
theorem x166_376 : Ev L xs ρ 166 376 [l0] st σ r ↔ Ev L xs ρ 166 377 [l0] (.int (4) :: st) σ r := ev_iconst cm_166 dX11_init_376 (by decide)
theorem x166_377 : Ev L xs ρ 166 377 [l0] st σ r ↔ Ev L xs ρ 166 379 [l0] (.int (114) :: st) σ r := ev_bipush cm_166 dX11_init_377 (by decide)
theorem x166_379 : Ev L xs ρ 166 379 [l0] (.int y :: .int x :: .ref a :: st) (n, I, Lm, Rm) r ↔ ((a < n ∧ (shp a).1 = 2) ∧ inb x (shp a).2) ∧ (0 ≤ y.toInt ∧ y.toInt < 65536) ∧ Ev L xs ρ 166 380 [l0] st (n, up2 I a (ixn x) y, Lm, Rm) r := ev_cast cm_166 dX11_init_379
theorem x166_380 : Ev L xs ρ 166 380 [l0] (.ref b :: .ref a :: st) (n, I, Lm, Rm) r ↔ (a < n ∧ shp a = (0, 11)) ∧ Ev L xs ρ 166 383 [l0] st (n, I, Lm, up2 Rm a 20 (b + 1)) r := ev_ptR cm_166 dX11_init_380 rfl rfl (Or.inr ⟨rfl, rfl⟩)
theorem x166_383 : Ev L xs ρ 166 383 [some (.ref a)] st σ r ↔ Ev L xs ρ 166 384 [some (.ref a)] (.ref a :: st) σ r := ev_aload_n cm_166 dX11_init_383 rfl rfl
theorem x166_384 : Ev L xs ρ 166 384 [l0] st σ r ↔ Ev L xs ρ 166 386 [l0] (.int (6) :: st) σ r := ev_bipush cm_166 dX11_init_384 (by decide)
theorem x166_386 : Ev L xs ρ 166 386 [l0] (.int x :: st) (n, I, Lm, Rm) r ↔ ((n < NNN ∧ (shp n).1 = 2) ∧ (0 ≤ x.toInt ∧ x.toInt = (shp n).2)) ∧ Ev L xs ρ 166 388 [l0] (.ref n :: st) (n + 1, zr2 I n 0, zr2 Lm n 0, zr2 Rm n 0) r := ev_nwc cm_166 dX11_init_386
theorem x166_388 : Ev L xs ρ 166 388 [l0] (.ref a :: st) σ r ↔ Ev L xs ρ 166 389 [l0] (.ref a :: .ref a :: st) σ r := ev_nx (ev_ex cm_166 dX11_init_388 rfl rfl)
theorem x166_389 : Ev L xs ρ 166 389 [l0] st σ r ↔ Ev L xs ρ 166 390 [l0] (.int (0) :: st) σ r := ev_iconst cm_166 dX11_init_389 (by decide)
theorem x166_390 : Ev L xs ρ 166 390 [l0] st σ r ↔ Ev L xs ρ 166 392 [l0] (.int (98) :: st) σ r := ev_bipush cm_166 dX11_init_390 (by decide)
theorem x166_392 : Ev L xs ρ 166 392 [l0] (.int y :: .int x :: .ref a :: st) (n, I, Lm, Rm) r ↔ ((a < n ∧ (shp a).1 = 2) ∧ inb x (shp a).2) ∧ (0 ≤ y.toInt ∧ y.toInt < 65536) ∧ Ev L xs ρ 166 393 [l0] st (n, up2 I a (ixn x) y, Lm, Rm) r := ev_cast cm_166 dX11_init_392
theorem x166_393 : Ev L xs ρ 166 393 [l0] (.ref a :: st) σ r ↔ Ev L xs ρ 166 394 [l0] (.ref a :: .ref a :: st) σ r := ev_nx (ev_ex cm_166 dX11_init_393 rfl rfl)
theorem x166_394 : Ev L xs ρ 166 394 [l0] st σ r ↔ Ev L xs ρ 166 395 [l0] (.int (1) :: st) σ r := ev_iconst cm_166 dX11_init_394 (by decide)
theorem x166_395 : Ev L xs ρ 166 395 [l0] st σ r ↔ Ev L xs ρ 166 397 [l0] (.int (101) :: st) σ r := ev_bipush cm_166 dX11_init_395 (by decide)
theorem x166_397 : Ev L xs ρ 166 397 [l0] (.int y :: .int x :: .ref a :: st) (n, I, Lm, Rm) r ↔ ((a < n ∧ (shp a).1 = 2) ∧ inb x (shp a).2) ∧ (0 ≤ y.toInt ∧ y.toInt < 65536) ∧ Ev L xs ρ 166 398 [l0] st (n, up2 I a (ixn x) y, Lm, Rm) r := ev_cast cm_166 dX11_init_397
theorem x166_398 : Ev L xs ρ 166 398 [l0] (.ref a :: st) σ r ↔ Ev L xs ρ 166 399 [l0] (.ref a :: .ref a :: st) σ r := ev_nx (ev_ex cm_166 dX11_init_398 rfl rfl)
theorem x166_399 : Ev L xs ρ 166 399 [l0] st σ r ↔ Ev L xs ρ 166 400 [l0] (.int (2) :: st) σ r := ev_iconst cm_166 dX11_init_399 (by decide)
theorem x166_400 : Ev L xs ρ 166 400 [l0] st σ r ↔ Ev L xs ρ 166 402 [l0] (.int (102) :: st) σ r := ev_bipush cm_166 dX11_init_400 (by decide)
theorem x166_402 : Ev L xs ρ 166 402 [l0] (.int y :: .int x :: .ref a :: st) (n, I, Lm, Rm) r ↔ ((a < n ∧ (shp a).1 = 2) ∧ inb x (shp a).2) ∧ (0 ≤ y.toInt ∧ y.toInt < 65536) ∧ Ev L xs ρ 166 403 [l0] st (n, up2 I a (ixn x) y, Lm, Rm) r := ev_cast cm_166 dX11_init_402
theorem x166_403 : Ev L xs ρ 166 403 [l0] (.ref a :: st) σ r ↔ Ev L xs ρ 166 404 [l0] (.ref a :: .ref a :: st) σ r := ev_nx (ev_ex cm_166 dX11_init_403 rfl rfl)
theorem x166_404 : Ev L xs ρ 166 404 [l0] st σ r ↔ Ev L xs ρ 166 405 [l0] (.int (3) :: st) σ r := ev_iconst cm_166 dX11_init_404 (by decide)
theorem x166_405 : Ev L xs ρ 166 405 [l0] st σ r ↔ Ev L xs ρ 166 407 [l0] (.int (111) :: st) σ r := ev_bipush cm_166 dX11_init_405 (by decide)
theorem x166_407 : Ev L xs ρ 166 407 [l0] (.int y :: .int x :: .ref a :: st) (n, I, Lm, Rm) r ↔ ((a < n ∧ (shp a).1 = 2) ∧ inb x (shp a).2) ∧ (0 ≤ y.toInt ∧ y.toInt < 65536) ∧ Ev L xs ρ 166 408 [l0] st (n, up2 I a (ixn x) y, Lm, Rm) r := ev_cast cm_166 dX11_init_407
theorem x166_408 : Ev L xs ρ 166 408 [l0] (.ref a :: st) σ r ↔ Ev L xs ρ 166 409 [l0] (.ref a :: .ref a :: st) σ r := ev_nx (ev_ex cm_166 dX11_init_408 rfl rfl)
theorem x166_409 : Ev L xs ρ 166 409 [l0] st σ r ↔ Ev L xs ρ 166 410 [l0] (.int (4) :: st) σ r := ev_iconst cm_166 dX11_init_409 (by decide)
theorem x166_410 : Ev L xs ρ 166 410 [l0] st σ r ↔ Ev L xs ρ 166 412 [l0] (.int (114) :: st) σ r := ev_bipush cm_166 dX11_init_410 (by decide)
theorem x166_412 : Ev L xs ρ 166 412 [l0] (.int y :: .int x :: .ref a :: st) (n, I, Lm, Rm) r ↔ ((a < n ∧ (shp a).1 = 2) ∧ inb x (shp a).2) ∧ (0 ≤ y.toInt ∧ y.toInt < 65536) ∧ Ev L xs ρ 166 413 [l0] st (n, up2 I a (ixn x) y, Lm, Rm) r := ev_cast cm_166 dX11_init_412
theorem x166_413 : Ev L xs ρ 166 413 [l0] (.ref a :: st) σ r ↔ Ev L xs ρ 166 414 [l0] (.ref a :: .ref a :: st) σ r := ev_nx (ev_ex cm_166 dX11_init_413 rfl rfl)
theorem x166_414 : Ev L xs ρ 166 414 [l0] st σ r ↔ Ev L xs ρ 166 415 [l0] (.int (5) :: st) σ r := ev_iconst cm_166 dX11_init_414 (by decide)
theorem x166_415 : Ev L xs ρ 166 415 [l0] st σ r ↔ Ev L xs ρ 166 417 [l0] (.int (101) :: st) σ r := ev_bipush cm_166 dX11_init_415 (by decide)
theorem x166_417 : Ev L xs ρ 166 417 [l0] (.int y :: .int x :: .ref a :: st) (n, I, Lm, Rm) r ↔ ((a < n ∧ (shp a).1 = 2) ∧ inb x (shp a).2) ∧ (0 ≤ y.toInt ∧ y.toInt < 65536) ∧ Ev L xs ρ 166 418 [l0] st (n, up2 I a (ixn x) y, Lm, Rm) r := ev_cast cm_166 dX11_init_417
theorem x166_418 : Ev L xs ρ 166 418 [l0] (.ref b :: .ref a :: st) (n, I, Lm, Rm) r ↔ (a < n ∧ shp a = (0, 11)) ∧ Ev L xs ρ 166 421 [l0] st (n, I, Lm, up2 Rm a 21 (b + 1)) r := ev_ptR cm_166 dX11_init_418 rfl rfl (Or.inr ⟨rfl, rfl⟩)
theorem x166_421 : Ev L xs ρ 166 421 [some (.ref a)] st σ r ↔ Ev L xs ρ 166 422 [some (.ref a)] (.ref a :: st) σ r := ev_aload_n cm_166 dX11_init_421 rfl rfl
theorem x166_422 : Ev L xs ρ 166 422 [l0] st σ r ↔ Ev L xs ρ 166 423 [l0] (.int (4) :: st) σ r := ev_iconst cm_166 dX11_init_422 (by decide)
theorem x166_423 : Ev L xs ρ 166 423 [l0] (.int x :: st) (n, I, Lm, Rm) r ↔ ((n < NNN ∧ (shp n).1 = 2) ∧ (0 ≤ x.toInt ∧ x.toInt = (shp n).2)) ∧ Ev L xs ρ 166 425 [l0] (.ref n :: st) (n + 1, zr2 I n 0, zr2 Lm n 0, zr2 Rm n 0) r := ev_nwc cm_166 dX11_init_423
theorem x166_425 : Ev L xs ρ 166 425 [l0] (.ref a :: st) σ r ↔ Ev L xs ρ 166 426 [l0] (.ref a :: .ref a :: st) σ r := ev_nx (ev_ex cm_166 dX11_init_425 rfl rfl)
theorem x166_426 : Ev L xs ρ 166 426 [l0] st σ r ↔ Ev L xs ρ 166 427 [l0] (.int (0) :: st) σ r := ev_iconst cm_166 dX11_init_426 (by decide)
theorem x166_427 : Ev L xs ρ 166 427 [l0] st σ r ↔ Ev L xs ρ 166 429 [l0] (.int (101) :: st) σ r := ev_bipush cm_166 dX11_init_427 (by decide)
theorem x166_429 : Ev L xs ρ 166 429 [l0] (.int y :: .int x :: .ref a :: st) (n, I, Lm, Rm) r ↔ ((a < n ∧ (shp a).1 = 2) ∧ inb x (shp a).2) ∧ (0 ≤ y.toInt ∧ y.toInt < 65536) ∧ Ev L xs ρ 166 430 [l0] st (n, up2 I a (ixn x) y, Lm, Rm) r := ev_cast cm_166 dX11_init_429
theorem x166_430 : Ev L xs ρ 166 430 [l0] (.ref a :: st) σ r ↔ Ev L xs ρ 166 431 [l0] (.ref a :: .ref a :: st) σ r := ev_nx (ev_ex cm_166 dX11_init_430 rfl rfl)
theorem x166_431 : Ev L xs ρ 166 431 [l0] st σ r ↔ Ev L xs ρ 166 432 [l0] (.int (1) :: st) σ r := ev_iconst cm_166 dX11_init_431 (by decide)
theorem x166_432 : Ev L xs ρ 166 432 [l0] st σ r ↔ Ev L xs ρ 166 434 [l0] (.int (118) :: st) σ r := ev_bipush cm_166 dX11_init_432 (by decide)
theorem x166_434 : Ev L xs ρ 166 434 [l0] (.int y :: .int x :: .ref a :: st) (n, I, Lm, Rm) r ↔ ((a < n ∧ (shp a).1 = 2) ∧ inb x (shp a).2) ∧ (0 ≤ y.toInt ∧ y.toInt < 65536) ∧ Ev L xs ρ 166 435 [l0] st (n, up2 I a (ixn x) y, Lm, Rm) r := ev_cast cm_166 dX11_init_434
theorem x166_435 : Ev L xs ρ 166 435 [l0] (.ref a :: st) σ r ↔ Ev L xs ρ 166 436 [l0] (.ref a :: .ref a :: st) σ r := ev_nx (ev_ex cm_166 dX11_init_435 rfl rfl)
theorem x166_436 : Ev L xs ρ 166 436 [l0] st σ r ↔ Ev L xs ρ 166 437 [l0] (.int (2) :: st) σ r := ev_iconst cm_166 dX11_init_436 (by decide)
theorem x166_437 : Ev L xs ρ 166 437 [l0] st σ r ↔ Ev L xs ρ 166 439 [l0] (.int (101) :: st) σ r := ev_bipush cm_166 dX11_init_437 (by decide)
theorem x166_439 : Ev L xs ρ 166 439 [l0] (.int y :: .int x :: .ref a :: st) (n, I, Lm, Rm) r ↔ ((a < n ∧ (shp a).1 = 2) ∧ inb x (shp a).2) ∧ (0 ≤ y.toInt ∧ y.toInt < 65536) ∧ Ev L xs ρ 166 440 [l0] st (n, up2 I a (ixn x) y, Lm, Rm) r := ev_cast cm_166 dX11_init_439
theorem x166_440 : Ev L xs ρ 166 440 [l0] (.ref a :: st) σ r ↔ Ev L xs ρ 166 441 [l0] (.ref a :: .ref a :: st) σ r := ev_nx (ev_ex cm_166 dX11_init_440 rfl rfl)
theorem x166_441 : Ev L xs ρ 166 441 [l0] st σ r ↔ Ev L xs ρ 166 442 [l0] (.int (3) :: st) σ r := ev_iconst cm_166 dX11_init_441 (by decide)
theorem x166_442 : Ev L xs ρ 166 442 [l0] st σ r ↔ Ev L xs ρ 166 444 [l0] (.int (110) :: st) σ r := ev_bipush cm_166 dX11_init_442 (by decide)
theorem x166_444 : Ev L xs ρ 166 444 [l0] (.int y :: .int x :: .ref a :: st) (n, I, Lm, Rm) r ↔ ((a < n ∧ (shp a).1 = 2) ∧ inb x (shp a).2) ∧ (0 ≤ y.toInt ∧ y.toInt < 65536) ∧ Ev L xs ρ 166 445 [l0] st (n, up2 I a (ixn x) y, Lm, Rm) r := ev_cast cm_166 dX11_init_444
theorem x166_445 : Ev L xs ρ 166 445 [l0] (.ref b :: .ref a :: st) (n, I, Lm, Rm) r ↔ (a < n ∧ shp a = (0, 11)) ∧ Ev L xs ρ 166 448 [l0] st (n, I, Lm, up2 Rm a 22 (b + 1)) r := ev_ptR cm_166 dX11_init_445 rfl rfl (Or.inr ⟨rfl, rfl⟩)
theorem x166_448 : Ev L xs ρ 166 448 [some (.ref a)] st σ r ↔ Ev L xs ρ 166 449 [some (.ref a)] (.ref a :: st) σ r := ev_aload_n cm_166 dX11_init_448 rfl rfl
theorem x166_449 : Ev L xs ρ 166 449 [l0] st σ r ↔ Ev L xs ρ 166 450 [l0] (.int (5) :: st) σ r := ev_iconst cm_166 dX11_init_449 (by decide)
theorem x166_450 : Ev L xs ρ 166 450 [l0] (.int x :: st) (n, I, Lm, Rm) r ↔ ((n < NNN ∧ (shp n).1 = 2) ∧ (0 ≤ x.toInt ∧ x.toInt = (shp n).2)) ∧ Ev L xs ρ 166 452 [l0] (.ref n :: st) (n + 1, zr2 I n 0, zr2 Lm n 0, zr2 Rm n 0) r := ev_nwc cm_166 dX11_init_450
theorem x166_452 : Ev L xs ρ 166 452 [l0] (.ref a :: st) σ r ↔ Ev L xs ρ 166 453 [l0] (.ref a :: .ref a :: st) σ r := ev_nx (ev_ex cm_166 dX11_init_452 rfl rfl)
theorem x166_453 : Ev L xs ρ 166 453 [l0] st σ r ↔ Ev L xs ρ 166 454 [l0] (.int (0) :: st) σ r := ev_iconst cm_166 dX11_init_453 (by decide)
theorem x166_454 : Ev L xs ρ 166 454 [l0] st σ r ↔ Ev L xs ρ 166 456 [l0] (.int (115) :: st) σ r := ev_bipush cm_166 dX11_init_454 (by decide)
theorem x166_456 : Ev L xs ρ 166 456 [l0] (.int y :: .int x :: .ref a :: st) (n, I, Lm, Rm) r ↔ ((a < n ∧ (shp a).1 = 2) ∧ inb x (shp a).2) ∧ (0 ≤ y.toInt ∧ y.toInt < 65536) ∧ Ev L xs ρ 166 457 [l0] st (n, up2 I a (ixn x) y, Lm, Rm) r := ev_cast cm_166 dX11_init_456
theorem x166_457 : Ev L xs ρ 166 457 [l0] (.ref a :: st) σ r ↔ Ev L xs ρ 166 458 [l0] (.ref a :: .ref a :: st) σ r := ev_nx (ev_ex cm_166 dX11_init_457 rfl rfl)
theorem x166_458 : Ev L xs ρ 166 458 [l0] st σ r ↔ Ev L xs ρ 166 459 [l0] (.int (1) :: st) σ r := ev_iconst cm_166 dX11_init_458 (by decide)
theorem x166_459 : Ev L xs ρ 166 459 [l0] st σ r ↔ Ev L xs ρ 166 461 [l0] (.int (104) :: st) σ r := ev_bipush cm_166 dX11_init_459 (by decide)
theorem x166_461 : Ev L xs ρ 166 461 [l0] (.int y :: .int x :: .ref a :: st) (n, I, Lm, Rm) r ↔ ((a < n ∧ (shp a).1 = 2) ∧ inb x (shp a).2) ∧ (0 ≤ y.toInt ∧ y.toInt < 65536) ∧ Ev L xs ρ 166 462 [l0] st (n, up2 I a (ixn x) y, Lm, Rm) r := ev_cast cm_166 dX11_init_461
theorem x166_462 : Ev L xs ρ 166 462 [l0] (.ref a :: st) σ r ↔ Ev L xs ρ 166 463 [l0] (.ref a :: .ref a :: st) σ r := ev_nx (ev_ex cm_166 dX11_init_462 rfl rfl)
theorem x166_463 : Ev L xs ρ 166 463 [l0] st σ r ↔ Ev L xs ρ 166 464 [l0] (.int (2) :: st) σ r := ev_iconst cm_166 dX11_init_463 (by decide)
theorem x166_464 : Ev L xs ρ 166 464 [l0] st σ r ↔ Ev L xs ρ 166 466 [l0] (.int (97) :: st) σ r := ev_bipush cm_166 dX11_init_464 (by decide)
theorem x166_466 : Ev L xs ρ 166 466 [l0] (.int y :: .int x :: .ref a :: st) (n, I, Lm, Rm) r ↔ ((a < n ∧ (shp a).1 = 2) ∧ inb x (shp a).2) ∧ (0 ≤ y.toInt ∧ y.toInt < 65536) ∧ Ev L xs ρ 166 467 [l0] st (n, up2 I a (ixn x) y, Lm, Rm) r := ev_cast cm_166 dX11_init_466
theorem x166_467 : Ev L xs ρ 166 467 [l0] (.ref a :: st) σ r ↔ Ev L xs ρ 166 468 [l0] (.ref a :: .ref a :: st) σ r := ev_nx (ev_ex cm_166 dX11_init_467 rfl rfl)
theorem x166_468 : Ev L xs ρ 166 468 [l0] st σ r ↔ Ev L xs ρ 166 469 [l0] (.int (3) :: st) σ r := ev_iconst cm_166 dX11_init_468 (by decide)
theorem x166_469 : Ev L xs ρ 166 469 [l0] st σ r ↔ Ev L xs ρ 166 471 [l0] (.int (114) :: st) σ r := ev_bipush cm_166 dX11_init_469 (by decide)
theorem x166_471 : Ev L xs ρ 166 471 [l0] (.int y :: .int x :: .ref a :: st) (n, I, Lm, Rm) r ↔ ((a < n ∧ (shp a).1 = 2) ∧ inb x (shp a).2) ∧ (0 ≤ y.toInt ∧ y.toInt < 65536) ∧ Ev L xs ρ 166 472 [l0] st (n, up2 I a (ixn x) y, Lm, Rm) r := ev_cast cm_166 dX11_init_471
theorem x166_472 : Ev L xs ρ 166 472 [l0] (.ref a :: st) σ r ↔ Ev L xs ρ 166 473 [l0] (.ref a :: .ref a :: st) σ r := ev_nx (ev_ex cm_166 dX11_init_472 rfl rfl)
theorem x166_473 : Ev L xs ρ 166 473 [l0] st σ r ↔ Ev L xs ρ 166 474 [l0] (.int (4) :: st) σ r := ev_iconst cm_166 dX11_init_473 (by decide)
theorem x166_474 : Ev L xs ρ 166 474 [l0] st σ r ↔ Ev L xs ρ 166 476 [l0] (.int (101) :: st) σ r := ev_bipush cm_166 dX11_init_474 (by decide)
theorem x166_476 : Ev L xs ρ 166 476 [l0] (.int y :: .int x :: .ref a :: st) (n, I, Lm, Rm) r ↔ ((a < n ∧ (shp a).1 = 2) ∧ inb x (shp a).2) ∧ (0 ≤ y.toInt ∧ y.toInt < 65536) ∧ Ev L xs ρ 166 477 [l0] st (n, up2 I a (ixn x) y, Lm, Rm) r := ev_cast cm_166 dX11_init_476
theorem x166_477 : Ev L xs ρ 166 477 [l0] (.ref b :: .ref a :: st) (n, I, Lm, Rm) r ↔ (a < n ∧ shp a = (0, 11)) ∧ Ev L xs ρ 166 480 [l0] st (n, I, Lm, up2 Rm a 23 (b + 1)) r := ev_ptR cm_166 dX11_init_477 rfl rfl (Or.inr ⟨rfl, rfl⟩)
theorem x166_480 : Ev L xs ρ 166 480 [some (.ref a)] st σ r ↔ Ev L xs ρ 166 481 [some (.ref a)] (.ref a :: st) σ r := ev_aload_n cm_166 dX11_init_480 rfl rfl
theorem x166_481 : Ev L xs ρ 166 481 [l0] st σ r ↔ Ev L xs ρ 166 483 [l0] (.int (6) :: st) σ r := ev_bipush cm_166 dX11_init_481 (by decide)
theorem x166_483 : Ev L xs ρ 166 483 [l0] (.int x :: st) (n, I, Lm, Rm) r ↔ ((n < NNN ∧ (shp n).1 = 2) ∧ (0 ≤ x.toInt ∧ x.toInt = (shp n).2)) ∧ Ev L xs ρ 166 485 [l0] (.ref n :: st) (n + 1, zr2 I n 0, zr2 Lm n 0, zr2 Rm n 0) r := ev_nwc cm_166 dX11_init_483
theorem x166_485 : Ev L xs ρ 166 485 [l0] (.ref a :: st) σ r ↔ Ev L xs ρ 166 486 [l0] (.ref a :: .ref a :: st) σ r := ev_nx (ev_ex cm_166 dX11_init_485 rfl rfl)
theorem x166_486 : Ev L xs ρ 166 486 [l0] st σ r ↔ Ev L xs ρ 166 487 [l0] (.int (0) :: st) σ r := ev_iconst cm_166 dX11_init_486 (by decide)
theorem x166_487 : Ev L xs ρ 166 487 [l0] st σ r ↔ Ev L xs ρ 166 489 [l0] (.int (112) :: st) σ r := ev_bipush cm_166 dX11_init_487 (by decide)
theorem x166_489 : Ev L xs ρ 166 489 [l0] (.int y :: .int x :: .ref a :: st) (n, I, Lm, Rm) r ↔ ((a < n ∧ (shp a).1 = 2) ∧ inb x (shp a).2) ∧ (0 ≤ y.toInt ∧ y.toInt < 65536) ∧ Ev L xs ρ 166 490 [l0] st (n, up2 I a (ixn x) y, Lm, Rm) r := ev_cast cm_166 dX11_init_489
theorem x166_490 : Ev L xs ρ 166 490 [l0] (.ref a :: st) σ r ↔ Ev L xs ρ 166 491 [l0] (.ref a :: .ref a :: st) σ r := ev_nx (ev_ex cm_166 dX11_init_490 rfl rfl)
theorem x166_491 : Ev L xs ρ 166 491 [l0] st σ r ↔ Ev L xs ρ 166 492 [l0] (.int (1) :: st) σ r := ev_iconst cm_166 dX11_init_491 (by decide)
theorem x166_492 : Ev L xs ρ 166 492 [l0] st σ r ↔ Ev L xs ρ 166 494 [l0] (.int (101) :: st) σ r := ev_bipush cm_166 dX11_init_492 (by decide)
theorem x166_494 : Ev L xs ρ 166 494 [l0] (.int y :: .int x :: .ref a :: st) (n, I, Lm, Rm) r ↔ ((a < n ∧ (shp a).1 = 2) ∧ inb x (shp a).2) ∧ (0 ≤ y.toInt ∧ y.toInt < 65536) ∧ Ev L xs ρ 166 495 [l0] st (n, up2 I a (ixn x) y, Lm, Rm) r := ev_cast cm_166 dX11_init_494
theorem x166_495 : Ev L xs ρ 166 495 [l0] (.ref a :: st) σ r ↔ Ev L xs ρ 166 496 [l0] (.ref a :: .ref a :: st) σ r := ev_nx (ev_ex cm_166 dX11_init_495 rfl rfl)
theorem x166_496 : Ev L xs ρ 166 496 [l0] st σ r ↔ Ev L xs ρ 166 497 [l0] (.int (2) :: st) σ r := ev_iconst cm_166 dX11_init_496 (by decide)
theorem x166_497 : Ev L xs ρ 166 497 [l0] st σ r ↔ Ev L xs ρ 166 499 [l0] (.int (114) :: st) σ r := ev_bipush cm_166 dX11_init_497 (by decide)
theorem x166_499 : Ev L xs ρ 166 499 [l0] (.int y :: .int x :: .ref a :: st) (n, I, Lm, Rm) r ↔ ((a < n ∧ (shp a).1 = 2) ∧ inb x (shp a).2) ∧ (0 ≤ y.toInt ∧ y.toInt < 65536) ∧ Ev L xs ρ 166 500 [l0] st (n, up2 I a (ixn x) y, Lm, Rm) r := ev_cast cm_166 dX11_init_499
theorem x166_500 : Ev L xs ρ 166 500 [l0] (.ref a :: st) σ r ↔ Ev L xs ρ 166 501 [l0] (.ref a :: .ref a :: st) σ r := ev_nx (ev_ex cm_166 dX11_init_500 rfl rfl)
theorem x166_501 : Ev L xs ρ 166 501 [l0] st σ r ↔ Ev L xs ρ 166 502 [l0] (.int (3) :: st) σ r := ev_iconst cm_166 dX11_init_501 (by decide)
theorem x166_502 : Ev L xs ρ 166 502 [l0] st σ r ↔ Ev L xs ρ 166 504 [l0] (.int (115) :: st) σ r := ev_bipush cm_166 dX11_init_502 (by decide)
theorem x166_504 : Ev L xs ρ 166 504 [l0] (.int y :: .int x :: .ref a :: st) (n, I, Lm, Rm) r ↔ ((a < n ∧ (shp a).1 = 2) ∧ inb x (shp a).2) ∧ (0 ≤ y.toInt ∧ y.toInt < 65536) ∧ Ev L xs ρ 166 505 [l0] st (n, up2 I a (ixn x) y, Lm, Rm) r := ev_cast cm_166 dX11_init_504
theorem x166_505 : Ev L xs ρ 166 505 [l0] (.ref a :: st) σ r ↔ Ev L xs ρ 166 506 [l0] (.ref a :: .ref a :: st) σ r := ev_nx (ev_ex cm_166 dX11_init_505 rfl rfl)
theorem x166_506 : Ev L xs ρ 166 506 [l0] st σ r ↔ Ev L xs ρ 166 507 [l0] (.int (4) :: st) σ r := ev_iconst cm_166 dX11_init_506 (by decide)
theorem x166_507 : Ev L xs ρ 166 507 [l0] st σ r ↔ Ev L xs ρ 166 509 [l0] (.int (111) :: st) σ r := ev_bipush cm_166 dX11_init_507 (by decide)
theorem x166_509 : Ev L xs ρ 166 509 [l0] (.int y :: .int x :: .ref a :: st) (n, I, Lm, Rm) r ↔ ((a < n ∧ (shp a).1 = 2) ∧ inb x (shp a).2) ∧ (0 ≤ y.toInt ∧ y.toInt < 65536) ∧ Ev L xs ρ 166 510 [l0] st (n, up2 I a (ixn x) y, Lm, Rm) r := ev_cast cm_166 dX11_init_509
theorem x166_510 : Ev L xs ρ 166 510 [l0] (.ref a :: st) σ r ↔ Ev L xs ρ 166 511 [l0] (.ref a :: .ref a :: st) σ r := ev_nx (ev_ex cm_166 dX11_init_510 rfl rfl)
theorem x166_511 : Ev L xs ρ 166 511 [l0] st σ r ↔ Ev L xs ρ 166 512 [l0] (.int (5) :: st) σ r := ev_iconst cm_166 dX11_init_511 (by decide)
theorem x166_512 : Ev L xs ρ 166 512 [l0] st σ r ↔ Ev L xs ρ 166 514 [l0] (.int (110) :: st) σ r := ev_bipush cm_166 dX11_init_512 (by decide)
theorem x166_514 : Ev L xs ρ 166 514 [l0] (.int y :: .int x :: .ref a :: st) (n, I, Lm, Rm) r ↔ ((a < n ∧ (shp a).1 = 2) ∧ inb x (shp a).2) ∧ (0 ≤ y.toInt ∧ y.toInt < 65536) ∧ Ev L xs ρ 166 515 [l0] st (n, up2 I a (ixn x) y, Lm, Rm) r := ev_cast cm_166 dX11_init_514
theorem x166_515 : Ev L xs ρ 166 515 [l0] (.ref b :: .ref a :: st) (n, I, Lm, Rm) r ↔ (a < n ∧ shp a = (0, 11)) ∧ Ev L xs ρ 166 518 [l0] st (n, I, Lm, up2 Rm a 24 (b + 1)) r := ev_ptR cm_166 dX11_init_515 rfl rfl (Or.inr ⟨rfl, rfl⟩)
theorem x166_518 : Ev L xs ρ 166 518 [some (.ref a)] st σ r ↔ Ev L xs ρ 166 519 [some (.ref a)] (.ref a :: st) σ r := ev_aload_n cm_166 dX11_init_518 rfl rfl
theorem x166_519 : Ev L xs ρ 166 519 [l0] st σ r ↔ Ev L xs ρ 166 520 [l0] (.int (2) :: st) σ r := ev_iconst cm_166 dX11_init_519 (by decide)
theorem x166_520 : Ev L xs ρ 166 520 [l0] (.int x :: st) (n, I, Lm, Rm) r ↔ ((n < NNN ∧ (shp n).1 = 2) ∧ (0 ≤ x.toInt ∧ x.toInt = (shp n).2)) ∧ Ev L xs ρ 166 522 [l0] (.ref n :: st) (n + 1, zr2 I n 0, zr2 Lm n 0, zr2 Rm n 0) r := ev_nwc cm_166 dX11_init_520
theorem x166_522 : Ev L xs ρ 166 522 [l0] (.ref a :: st) σ r ↔ Ev L xs ρ 166 523 [l0] (.ref a :: .ref a :: st) σ r := ev_nx (ev_ex cm_166 dX11_init_522 rfl rfl)
theorem x166_523 : Ev L xs ρ 166 523 [l0] st σ r ↔ Ev L xs ρ 166 524 [l0] (.int (0) :: st) σ r := ev_iconst cm_166 dX11_init_523 (by decide)
theorem x166_524 : Ev L xs ρ 166 524 [l0] st σ r ↔ Ev L xs ρ 166 526 [l0] (.int (105) :: st) σ r := ev_bipush cm_166 dX11_init_524 (by decide)
theorem x166_526 : Ev L xs ρ 166 526 [l0] (.int y :: .int x :: .ref a :: st) (n, I, Lm, Rm) r ↔ ((a < n ∧ (shp a).1 = 2) ∧ inb x (shp a).2) ∧ (0 ≤ y.toInt ∧ y.toInt < 65536) ∧ Ev L xs ρ 166 527 [l0] st (n, up2 I a (ixn x) y, Lm, Rm) r := ev_cast cm_166 dX11_init_526
theorem x166_527 : Ev L xs ρ 166 527 [l0] (.ref a :: st) σ r ↔ Ev L xs ρ 166 528 [l0] (.ref a :: .ref a :: st) σ r := ev_nx (ev_ex cm_166 dX11_init_527 rfl rfl)
theorem x166_528 : Ev L xs ρ 166 528 [l0] st σ r ↔ Ev L xs ρ 166 529 [l0] (.int (1) :: st) σ r := ev_iconst cm_166 dX11_init_528 (by decide)
theorem x166_529 : Ev L xs ρ 166 529 [l0] st σ r ↔ Ev L xs ρ 166 531 [l0] (.int (110) :: st) σ r := ev_bipush cm_166 dX11_init_529 (by decide)
theorem x166_531 : Ev L xs ρ 166 531 [l0] (.int y :: .int x :: .ref a :: st) (n, I, Lm, Rm) r ↔ ((a < n ∧ (shp a).1 = 2) ∧ inb x (shp a).2) ∧ (0 ≤ y.toInt ∧ y.toInt < 65536) ∧ Ev L xs ρ 166 532 [l0] st (n, up2 I a (ixn x) y, Lm, Rm) r := ev_cast cm_166 dX11_init_531
theorem x166_532 : Ev L xs ρ 166 532 [l0] (.ref b :: .ref a :: st) (n, I, Lm, Rm) r ↔ (a < n ∧ shp a = (0, 11)) ∧ Ev L xs ρ 166 535 [l0] st (n, I, Lm, up2 Rm a 25 (b + 1)) r := ev_ptR cm_166 dX11_init_532 rfl rfl (Or.inr ⟨rfl, rfl⟩)
theorem x166_535 : Ev L xs ρ 166 535 [some (.ref a)] st σ r ↔ Ev L xs ρ 166 536 [some (.ref a)] (.ref a :: st) σ r := ev_aload_n cm_166 dX11_init_535 rfl rfl
theorem x166_536 : Ev L xs ρ 166 536 [l0] st σ r ↔ Ev L xs ρ 166 537 [l0] (.int (4) :: st) σ r := ev_iconst cm_166 dX11_init_536 (by decide)
theorem x166_537 : Ev L xs ρ 166 537 [l0] (.int x :: st) (n, I, Lm, Rm) r ↔ ((n < NNN ∧ (shp n).1 = 2) ∧ (0 ≤ x.toInt ∧ x.toInt = (shp n).2)) ∧ Ev L xs ρ 166 539 [l0] (.ref n :: st) (n + 1, zr2 I n 0, zr2 Lm n 0, zr2 Rm n 0) r := ev_nwc cm_166 dX11_init_537
theorem x166_539 : Ev L xs ρ 166 539 [l0] (.ref a :: st) σ r ↔ Ev L xs ρ 166 540 [l0] (.ref a :: .ref a :: st) σ r := ev_nx (ev_ex cm_166 dX11_init_539 rfl rfl)
theorem x166_540 : Ev L xs ρ 166 540 [l0] st σ r ↔ Ev L xs ρ 166 541 [l0] (.int (0) :: st) σ r := ev_iconst cm_166 dX11_init_540 (by decide)
theorem x166_541 : Ev L xs ρ 166 541 [l0] st σ r ↔ Ev L xs ρ 166 543 [l0] (.int (112) :: st) σ r := ev_bipush cm_166 dX11_init_541 (by decide)
theorem x166_543 : Ev L xs ρ 166 543 [l0] (.int y :: .int x :: .ref a :: st) (n, I, Lm, Rm) r ↔ ((a < n ∧ (shp a).1 = 2) ∧ inb x (shp a).2) ∧ (0 ≤ y.toInt ∧ y.toInt < 65536) ∧ Ev L xs ρ 166 544 [l0] st (n, up2 I a (ixn x) y, Lm, Rm) r := ev_cast cm_166 dX11_init_543
theorem x166_544 : Ev L xs ρ 166 544 [l0] (.ref a :: st) σ r ↔ Ev L xs ρ 166 545 [l0] (.ref a :: .ref a :: st) σ r := ev_nx (ev_ex cm_166 dX11_init_544 rfl rfl)
theorem x166_545 : Ev L xs ρ 166 545 [l0] st σ r ↔ Ev L xs ρ 166 546 [l0] (.int (1) :: st) σ r := ev_iconst cm_166 dX11_init_545 (by decide)
theorem x166_546 : Ev L xs ρ 166 546 [l0] st σ r ↔ Ev L xs ρ 166 548 [l0] (.int (97) :: st) σ r := ev_bipush cm_166 dX11_init_546 (by decide)
theorem x166_548 : Ev L xs ρ 166 548 [l0] (.int y :: .int x :: .ref a :: st) (n, I, Lm, Rm) r ↔ ((a < n ∧ (shp a).1 = 2) ∧ inb x (shp a).2) ∧ (0 ≤ y.toInt ∧ y.toInt < 65536) ∧ Ev L xs ρ 166 549 [l0] st (n, up2 I a (ixn x) y, Lm, Rm) r := ev_cast cm_166 dX11_init_548
theorem x166_549 : Ev L xs ρ 166 549 [l0] (.ref a :: st) σ r ↔ Ev L xs ρ 166 550 [l0] (.ref a :: .ref a :: st) σ r := ev_nx (ev_ex cm_166 dX11_init_549 rfl rfl)
theorem x166_550 : Ev L xs ρ 166 550 [l0] st σ r ↔ Ev L xs ρ 166 551 [l0] (.int (2) :: st) σ r := ev_iconst cm_166 dX11_init_550 (by decide)
theorem x166_551 : Ev L xs ρ 166 551 [l0] st σ r ↔ Ev L xs ρ 166 553 [l0] (.int (105) :: st) σ r := ev_bipush cm_166 dX11_init_551 (by decide)
theorem x166_553 : Ev L xs ρ 166 553 [l0] (.int y :: .int x :: .ref a :: st) (n, I, Lm, Rm) r ↔ ((a < n ∧ (shp a).1 = 2) ∧ inb x (shp a).2) ∧ (0 ≤ y.toInt ∧ y.toInt < 65536) ∧ Ev L xs ρ 166 554 [l0] st (n, up2 I a (ixn x) y, Lm, Rm) r := ev_cast cm_166 dX11_init_553
theorem x166_554 : Ev L xs ρ 166 554 [l0] (.ref a :: st) σ r ↔ Ev L xs ρ 166 555 [l0] (.ref a :: .ref a :: st) σ r := ev_nx (ev_ex cm_166 dX11_init_554 rfl rfl)
theorem x166_555 : Ev L xs ρ 166 555 [l0] st σ r ↔ Ev L xs ρ 166 556 [l0] (.int (3) :: st) σ r := ev_iconst cm_166 dX11_init_555 (by decide)
theorem x166_556 : Ev L xs ρ 166 556 [l0] st σ r ↔ Ev L xs ρ 166 558 [l0] (.int (114) :: st) σ r := ev_bipush cm_166 dX11_init_556 (by decide)
theorem x166_558 : Ev L xs ρ 166 558 [l0] (.int y :: .int x :: .ref a :: st) (n, I, Lm, Rm) r ↔ ((a < n ∧ (shp a).1 = 2) ∧ inb x (shp a).2) ∧ (0 ≤ y.toInt ∧ y.toInt < 65536) ∧ Ev L xs ρ 166 559 [l0] st (n, up2 I a (ixn x) y, Lm, Rm) r := ev_cast cm_166 dX11_init_558
theorem x166_559 : Ev L xs ρ 166 559 [l0] (.ref b :: .ref a :: st) (n, I, Lm, Rm) r ↔ (a < n ∧ shp a = (0, 11)) ∧ Ev L xs ρ 166 562 [l0] st (n, I, Lm, up2 Rm a 26 (b + 1)) r := ev_ptR cm_166 dX11_init_559 rfl rfl (Or.inr ⟨rfl, rfl⟩)
theorem x166_562 : Ev L xs ρ 166 562 [some (.ref a)] st σ r ↔ Ev L xs ρ 166 563 [some (.ref a)] (.ref a :: st) σ r := ev_aload_n cm_166 dX11_init_562 rfl rfl
theorem x166_563 : Ev L xs ρ 166 563 [l0] st σ r ↔ Ev L xs ρ 166 564 [l0] (.int (5) :: st) σ r := ev_iconst cm_166 dX11_init_563 (by decide)
theorem x166_564 : Ev L xs ρ 166 564 [l0] (.int x :: st) (n, I, Lm, Rm) r ↔ ((n < NNN ∧ (shp n).1 = 2) ∧ (0 ≤ x.toInt ∧ x.toInt = (shp n).2)) ∧ Ev L xs ρ 166 566 [l0] (.ref n :: st) (n + 1, zr2 I n 0, zr2 Lm n 0, zr2 Rm n 0) r := ev_nwc cm_166 dX11_init_564
theorem x166_566 : Ev L xs ρ 166 566 [l0] (.ref a :: st) σ r ↔ Ev L xs ρ 166 567 [l0] (.ref a :: .ref a :: st) σ r := ev_nx (ev_ex cm_166 dX11_init_566 rfl rfl)
theorem x166_567 : Ev L xs ρ 166 567 [l0] st σ r ↔ Ev L xs ρ 166 568 [l0] (.int (0) :: st) σ r := ev_iconst cm_166 dX11_init_567 (by decide)
theorem x166_568 : Ev L xs ρ 166 568 [l0] st σ r ↔ Ev L xs ρ 166 570 [l0] (.int (119) :: st) σ r := ev_bipush cm_166 dX11_init_568 (by decide)
theorem x166_570 : Ev L xs ρ 166 570 [l0] (.int y :: .int x :: .ref a :: st) (n, I, Lm, Rm) r ↔ ((a < n ∧ (shp a).1 = 2) ∧ inb x (shp a).2) ∧ (0 ≤ y.toInt ∧ y.toInt < 65536) ∧ Ev L xs ρ 166 571 [l0] st (n, up2 I a (ixn x) y, Lm, Rm) r := ev_cast cm_166 dX11_init_570
theorem x166_571 : Ev L xs ρ 166 571 [l0] (.ref a :: st) σ r ↔ Ev L xs ρ 166 572 [l0] (.ref a :: .ref a :: st) σ r := ev_nx (ev_ex cm_166 dX11_init_571 rfl rfl)
theorem x166_572 : Ev L xs ρ 166 572 [l0] st σ r ↔ Ev L xs ρ 166 573 [l0] (.int (1) :: st) σ r := ev_iconst cm_166 dX11_init_572 (by decide)
theorem x166_573 : Ev L xs ρ 166 573 [l0] st σ r ↔ Ev L xs ρ 166 575 [l0] (.int (111) :: st) σ r := ev_bipush cm_166 dX11_init_573 (by decide)
theorem x166_575 : Ev L xs ρ 166 575 [l0] (.int y :: .int x :: .ref a :: st) (n, I, Lm, Rm) r ↔ ((a < n ∧ (shp a).1 = 2) ∧ inb x (shp a).2) ∧ (0 ≤ y.toInt ∧ y.toInt < 65536) ∧ Ev L xs ρ 166 576 [l0] st (n, up2 I a (ixn x) y, Lm, Rm) r := ev_cast cm_166 dX11_init_575
theorem x166_576 : Ev L xs ρ 166 576 [l0] (.ref a :: st) σ r ↔ Ev L xs ρ 166 577 [l0] (.ref a :: .ref a :: st) σ r := ev_nx (ev_ex cm_166 dX11_init_576 rfl rfl)
theorem x166_577 : Ev L xs ρ 166 577 [l0] st σ r ↔ Ev L xs ρ 166 578 [l0] (.int (2) :: st) σ r := ev_iconst cm_166 dX11_init_577 (by decide)
theorem x166_578 : Ev L xs ρ 166 578 [l0] st σ r ↔ Ev L xs ρ 166 580 [l0] (.int (114) :: st) σ r := ev_bipush cm_166 dX11_init_578 (by decide)
theorem x166_580 : Ev L xs ρ 166 580 [l0] (.int y :: .int x :: .ref a :: st) (n, I, Lm, Rm) r ↔ ((a < n ∧ (shp a).1 = 2) ∧ inb x (shp a).2) ∧ (0 ≤ y.toInt ∧ y.toInt < 65536) ∧ Ev L xs ρ 166 581 [l0] st (n, up2 I a (ixn x) y, Lm, Rm) r := ev_cast cm_166 dX11_init_580
theorem x166_581 : Ev L xs ρ 166 581 [l0] (.ref a :: st) σ r ↔ Ev L xs ρ 166 582 [l0] (.ref a :: .ref a :: st) σ r := ev_nx (ev_ex cm_166 dX11_init_581 rfl rfl)
theorem x166_582 : Ev L xs ρ 166 582 [l0] st σ r ↔ Ev L xs ρ 166 583 [l0] (.int (3) :: st) σ r := ev_iconst cm_166 dX11_init_582 (by decide)
theorem x166_583 : Ev L xs ρ 166 583 [l0] st σ r ↔ Ev L xs ρ 166 585 [l0] (.int (107) :: st) σ r := ev_bipush cm_166 dX11_init_583 (by decide)
theorem x166_585 : Ev L xs ρ 166 585 [l0] (.int y :: .int x :: .ref a :: st) (n, I, Lm, Rm) r ↔ ((a < n ∧ (shp a).1 = 2) ∧ inb x (shp a).2) ∧ (0 ≤ y.toInt ∧ y.toInt < 65536) ∧ Ev L xs ρ 166 586 [l0] st (n, up2 I a (ixn x) y, Lm, Rm) r := ev_cast cm_166 dX11_init_585
theorem x166_586 : Ev L xs ρ 166 586 [l0] (.ref a :: st) σ r ↔ Ev L xs ρ 166 587 [l0] (.ref a :: .ref a :: st) σ r := ev_nx (ev_ex cm_166 dX11_init_586 rfl rfl)
theorem x166_587 : Ev L xs ρ 166 587 [l0] st σ r ↔ Ev L xs ρ 166 588 [l0] (.int (4) :: st) σ r := ev_iconst cm_166 dX11_init_587 (by decide)
theorem x166_588 : Ev L xs ρ 166 588 [l0] st σ r ↔ Ev L xs ρ 166 590 [l0] (.int (115) :: st) σ r := ev_bipush cm_166 dX11_init_588 (by decide)
theorem x166_590 : Ev L xs ρ 166 590 [l0] (.int y :: .int x :: .ref a :: st) (n, I, Lm, Rm) r ↔ ((a < n ∧ (shp a).1 = 2) ∧ inb x (shp a).2) ∧ (0 ≤ y.toInt ∧ y.toInt < 65536) ∧ Ev L xs ρ 166 591 [l0] st (n, up2 I a (ixn x) y, Lm, Rm) r := ev_cast cm_166 dX11_init_590
theorem x166_591 : Ev L xs ρ 166 591 [l0] (.ref b :: .ref a :: st) (n, I, Lm, Rm) r ↔ (a < n ∧ shp a = (0, 11)) ∧ Ev L xs ρ 166 594 [l0] st (n, I, Lm, up2 Rm a 27 (b + 1)) r := ev_ptR cm_166 dX11_init_591 rfl rfl (Or.inr ⟨rfl, rfl⟩)
theorem x166_594 : Ev L xs ρ 166 594 [some (.ref a)] st σ r ↔ Ev L xs ρ 166 595 [some (.ref a)] (.ref a :: st) σ r := ev_aload_n cm_166 dX11_init_594 rfl rfl
theorem x166_595 : Ev L xs ρ 166 595 [l0] st σ r ↔ Ev L xs ρ 166 596 [l0] (.int (4) :: st) σ r := ev_iconst cm_166 dX11_init_595 (by decide)
theorem x166_596 : Ev L xs ρ 166 596 [l0] (.int x :: st) (n, I, Lm, Rm) r ↔ ((n < NNN ∧ (shp n).1 = 2) ∧ (0 ≤ x.toInt ∧ x.toInt = (shp n).2)) ∧ Ev L xs ρ 166 598 [l0] (.ref n :: st) (n + 1, zr2 I n 0, zr2 Lm n 0, zr2 Rm n 0) r := ev_nwc cm_166 dX11_init_596
theorem x166_598 : Ev L xs ρ 166 598 [l0] (.ref a :: st) σ r ↔ Ev L xs ρ 166 599 [l0] (.ref a :: .ref a :: st) σ r := ev_nx (ev_ex cm_166 dX11_init_598 rfl rfl)
theorem x166_599 : Ev L xs ρ 166 599 [l0] st σ r ↔ Ev L xs ρ 166 600 [l0] (.int (0) :: st) σ r := ev_iconst cm_166 dX11_init_599 (by decide)
theorem x166_600 : Ev L xs ρ 166 600 [l0] st σ r ↔ Ev L xs ρ 166 602 [l0] (.int (119) :: st) σ r := ev_bipush cm_166 dX11_init_600 (by decide)
theorem x166_602 : Ev L xs ρ 166 602 [l0] (.int y :: .int x :: .ref a :: st) (n, I, Lm, Rm) r ↔ ((a < n ∧ (shp a).1 = 2) ∧ inb x (shp a).2) ∧ (0 ≤ y.toInt ∧ y.toInt < 65536) ∧ Ev L xs ρ 166 603 [l0] st (n, up2 I a (ixn x) y, Lm, Rm) r := ev_cast cm_166 dX11_init_602
theorem x166_603 : Ev L xs ρ 166 603 [l0] (.ref a :: st) σ r ↔ Ev L xs ρ 166 604 [l0] (.ref a :: .ref a :: st) σ r := ev_nx (ev_ex cm_166 dX11_init_603 rfl rfl)
theorem x166_604 : Ev L xs ρ 166 604 [l0] st σ r ↔ Ev L xs ρ 166 605 [l0] (.int (1) :: st) σ r := ev_iconst cm_166 dX11_init_604 (by decide)
theorem x166_605 : Ev L xs ρ 166 605 [l0] st σ r ↔ Ev L xs ρ 166 607 [l0] (.int (104) :: st) σ r := ev_bipush cm_166 dX11_init_605 (by decide)
theorem x166_607 : Ev L xs ρ 166 607 [l0] (.int y :: .int x :: .ref a :: st) (n, I, Lm, Rm) r ↔ ((a < n ∧ (shp a).1 = 2) ∧ inb x (shp a).2) ∧ (0 ≤ y.toInt ∧ y.toInt < 65536) ∧ Ev L xs ρ 166 608 [l0] st (n, up2 I a (ixn x) y, Lm, Rm) r := ev_cast cm_166 dX11_init_607
theorem x166_608 : Ev L xs ρ 166 608 [l0] (.ref a :: st) σ r ↔ Ev L xs ρ 166 609 [l0] (.ref a :: .ref a :: st) σ r := ev_nx (ev_ex cm_166 dX11_init_608 rfl rfl)
theorem x166_609 : Ev L xs ρ 166 609 [l0] st σ r ↔ Ev L xs ρ 166 610 [l0] (.int (2) :: st) σ r := ev_iconst cm_166 dX11_init_609 (by decide)
theorem x166_610 : Ev L xs ρ 166 610 [l0] st σ r ↔ Ev L xs ρ 166 612 [l0] (.int (101) :: st) σ r := ev_bipush cm_166 dX11_init_610 (by decide)
theorem x166_612 : Ev L xs ρ 166 612 [l0] (.int y :: .int x :: .ref a :: st) (n, I, Lm, Rm) r ↔ ((a < n ∧ (shp a).1 = 2) ∧ inb x (shp a).2) ∧ (0 ≤ y.toInt ∧ y.toInt < 65536) ∧ Ev L xs ρ 166 613 [l0] st (n, up2 I a (ixn x) y, Lm, Rm) r := ev_cast cm_166 dX11_init_612
theorem x166_613 : Ev L xs ρ 166 613 [l0] (.ref a :: st) σ r ↔ Ev L xs ρ 166 614 [l0] (.ref a :: .ref a :: st) σ r := ev_nx (ev_ex cm_166 dX11_init_613 rfl rfl)
theorem x166_614 : Ev L xs ρ 166 614 [l0] st σ r ↔ Ev L xs ρ 166 615 [l0] (.int (3) :: st) σ r := ev_iconst cm_166 dX11_init_614 (by decide)
theorem x166_615 : Ev L xs ρ 166 615 [l0] st σ r ↔ Ev L xs ρ 166 617 [l0] (.int (110) :: st) σ r := ev_bipush cm_166 dX11_init_615 (by decide)
theorem x166_617 : Ev L xs ρ 166 617 [l0] (.int y :: .int x :: .ref a :: st) (n, I, Lm, Rm) r ↔ ((a < n ∧ (shp a).1 = 2) ∧ inb x (shp a).2) ∧ (0 ≤ y.toInt ∧ y.toInt < 65536) ∧ Ev L xs ρ 166 618 [l0] st (n, up2 I a (ixn x) y, Lm, Rm) r := ev_cast cm_166 dX11_init_617
theorem x166_618 : Ev L xs ρ 166 618 [l0] (.ref b :: .ref a :: st) (n, I, Lm, Rm) r ↔ (a < n ∧ shp a = (0, 11)) ∧ Ev L xs ρ 166 621 [l0] st (n, I, Lm, up2 Rm a 28 (b + 1)) r := ev_ptR cm_166 dX11_init_618 rfl rfl (Or.inr ⟨rfl, rfl⟩)
theorem x166_621 : Ev L xs ρ 166 621 [some (.ref a)] st σ r ↔ Ev L xs ρ 166 622 [some (.ref a)] (.ref a :: st) σ r := ev_aload_n cm_166 dX11_init_621 rfl rfl
theorem x166_622 : Ev L xs ρ 166 622 [l0] st σ r ↔ Ev L xs ρ 166 623 [l0] (.int (2) :: st) σ r := ev_iconst cm_166 dX11_init_622 (by decide)
theorem x166_623 : Ev L xs ρ 166 623 [l0] (.int x :: st) (n, I, Lm, Rm) r ↔ ((n < NNN ∧ (shp n).1 = 2) ∧ (0 ≤ x.toInt ∧ x.toInt = (shp n).2)) ∧ Ev L xs ρ 166 625 [l0] (.ref n :: st) (n + 1, zr2 I n 0, zr2 Lm n 0, zr2 Rm n 0) r := ev_nwc cm_166 dX11_init_623
theorem x166_625 : Ev L xs ρ 166 625 [l0] (.ref a :: st) σ r ↔ Ev L xs ρ 166 626 [l0] (.ref a :: .ref a :: st) σ r := ev_nx (ev_ex cm_166 dX11_init_625 rfl rfl)
theorem x166_626 : Ev L xs ρ 166 626 [l0] st σ r ↔ Ev L xs ρ 166 627 [l0] (.int (0) :: st) σ r := ev_iconst cm_166 dX11_init_626 (by decide)
theorem x166_627 : Ev L xs ρ 166 627 [l0] st σ r ↔ Ev L xs ρ 166 629 [l0] (.int (111) :: st) σ r := ev_bipush cm_166 dX11_init_627 (by decide)
theorem x166_629 : Ev L xs ρ 166 629 [l0] (.int y :: .int x :: .ref a :: st) (n, I, Lm, Rm) r ↔ ((a < n ∧ (shp a).1 = 2) ∧ inb x (shp a).2) ∧ (0 ≤ y.toInt ∧ y.toInt < 65536) ∧ Ev L xs ρ 166 630 [l0] st (n, up2 I a (ixn x) y, Lm, Rm) r := ev_cast cm_166 dX11_init_629
theorem x166_630 : Ev L xs ρ 166 630 [l0] (.ref a :: st) σ r ↔ Ev L xs ρ 166 631 [l0] (.ref a :: .ref a :: st) σ r := ev_nx (ev_ex cm_166 dX11_init_630 rfl rfl)
theorem x166_631 : Ev L xs ρ 166 631 [l0] st σ r ↔ Ev L xs ρ 166 632 [l0] (.int (1) :: st) σ r := ev_iconst cm_166 dX11_init_631 (by decide)
theorem x166_632 : Ev L xs ρ 166 632 [l0] st σ r ↔ Ev L xs ρ 166 634 [l0] (.int (114) :: st) σ r := ev_bipush cm_166 dX11_init_632 (by decide)
theorem x166_634 : Ev L xs ρ 166 634 [l0] (.int y :: .int x :: .ref a :: st) (n, I, Lm, Rm) r ↔ ((a < n ∧ (shp a).1 = 2) ∧ inb x (shp a).2) ∧ (0 ≤ y.toInt ∧ y.toInt < 65536) ∧ Ev L xs ρ 166 635 [l0] st (n, up2 I a (ixn x) y, Lm, Rm) r := ev_cast cm_166 dX11_init_634
theorem x166_635 : Ev L xs ρ 166 635 [l0] (.ref b :: .ref a :: st) (n, I, Lm, Rm) r ↔ (a < n ∧ shp a = (0, 11)) ∧ Ev L xs ρ 166 638 [l0] st (n, I, Lm, up2 Rm a 29 (b + 1)) r := ev_ptR cm_166 dX11_init_635 rfl rfl (Or.inr ⟨rfl, rfl⟩)
theorem x166_638 : Ev L xs ρ 166 638 [some (.ref a)] st σ r ↔ Ev L xs ρ 166 639 [some (.ref a)] (.ref a :: st) σ r := ev_aload_n cm_166 dX11_init_638 rfl rfl
theorem x166_639 : Ev L xs ρ 166 639 [l0] st σ r ↔ Ev L xs ρ 166 640 [l0] (.int (3) :: st) σ r := ev_iconst cm_166 dX11_init_639 (by decide)
theorem x166_640 : Ev L xs ρ 166 640 [l0] (.int x :: st) (n, I, Lm, Rm) r ↔ ((n < NNN ∧ (shp n).1 = 2) ∧ (0 ≤ x.toInt ∧ x.toInt = (shp n).2)) ∧ Ev L xs ρ 166 642 [l0] (.ref n :: st) (n + 1, zr2 I n 0, zr2 Lm n 0, zr2 Rm n 0) r := ev_nwc cm_166 dX11_init_640
theorem x166_642 : Ev L xs ρ 166 642 [l0] (.ref a :: st) σ r ↔ Ev L xs ρ 166 643 [l0] (.ref a :: .ref a :: st) σ r := ev_nx (ev_ex cm_166 dX11_init_642 rfl rfl)
theorem x166_643 : Ev L xs ρ 166 643 [l0] st σ r ↔ Ev L xs ρ 166 644 [l0] (.int (0) :: st) σ r := ev_iconst cm_166 dX11_init_643 (by decide)
theorem x166_644 : Ev L xs ρ 166 644 [l0] st σ r ↔ Ev L xs ρ 166 646 [l0] (.int (97) :: st) σ r := ev_bipush cm_166 dX11_init_644 (by decide)
theorem x166_646 : Ev L xs ρ 166 646 [l0] (.int y :: .int x :: .ref a :: st) (n, I, Lm, Rm) r ↔ ((a < n ∧ (shp a).1 = 2) ∧ inb x (shp a).2) ∧ (0 ≤ y.toInt ∧ y.toInt < 65536) ∧ Ev L xs ρ 166 647 [l0] st (n, up2 I a (ixn x) y, Lm, Rm) r := ev_cast cm_166 dX11_init_646
theorem x166_647 : Ev L xs ρ 166 647 [l0] (.ref a :: st) σ r ↔ Ev L xs ρ 166 648 [l0] (.ref a :: .ref a :: st) σ r := ev_nx (ev_ex cm_166 dX11_init_647 rfl rfl)
theorem x166_648 : Ev L xs ρ 166 648 [l0] st σ r ↔ Ev L xs ρ 166 649 [l0] (.int (1) :: st) σ r := ev_iconst cm_166 dX11_init_648 (by decide)
theorem x166_649 : Ev L xs ρ 166 649 [l0] st σ r ↔ Ev L xs ρ 166 651 [l0] (.int (110) :: st) σ r := ev_bipush cm_166 dX11_init_649 (by decide)
theorem x166_651 : Ev L xs ρ 166 651 [l0] (.int y :: .int x :: .ref a :: st) (n, I, Lm, Rm) r ↔ ((a < n ∧ (shp a).1 = 2) ∧ inb x (shp a).2) ∧ (0 ≤ y.toInt ∧ y.toInt < 65536) ∧ Ev L xs ρ 166 652 [l0] st (n, up2 I a (ixn x) y, Lm, Rm) r := ev_cast cm_166 dX11_init_651
theorem x166_652 : Ev L xs ρ 166 652 [l0] (.ref a :: st) σ r ↔ Ev L xs ρ 166 653 [l0] (.ref a :: .ref a :: st) σ r := ev_nx (ev_ex cm_166 dX11_init_652 rfl rfl)
theorem x166_653 : Ev L xs ρ 166 653 [l0] st σ r ↔ Ev L xs ρ 166 654 [l0] (.int (2) :: st) σ r := ev_iconst cm_166 dX11_init_653 (by decide)
theorem x166_654 : Ev L xs ρ 166 654 [l0] st σ r ↔ Ev L xs ρ 166 656 [l0] (.int (100) :: st) σ r := ev_bipush cm_166 dX11_init_654 (by decide)
theorem x166_656 : Ev L xs ρ 166 656 [l0] (.int y :: .int x :: .ref a :: st) (n, I, Lm, Rm) r ↔ ((a < n ∧ (shp a).1 = 2) ∧ inb x (shp a).2) ∧ (0 ≤ y.toInt ∧ y.toInt < 65536) ∧ Ev L xs ρ 166 657 [l0] st (n, up2 I a (ixn x) y, Lm, Rm) r := ev_cast cm_166 dX11_init_656
theorem x166_657 : Ev L xs ρ 166 657 [l0] (.ref b :: .ref a :: st) (n, I, Lm, Rm) r ↔ (a < n ∧ shp a = (0, 11)) ∧ Ev L xs ρ 166 660 [l0] st (n, I, Lm, up2 Rm a 30 (b + 1)) r := ev_ptR cm_166 dX11_init_657 rfl rfl (Or.inr ⟨rfl, rfl⟩)
theorem x166_660 : Ev L xs ρ 166 660 [some (.ref a)] st σ r ↔ Ev L xs ρ 166 661 [some (.ref a)] (.ref a :: st) σ r := ev_aload_n cm_166 dX11_init_660 rfl rfl
theorem x166_661 : Ev L xs ρ 166 661 [l0] st σ r ↔ Ev L xs ρ 166 662 [l0] (.int (3) :: st) σ r := ev_iconst cm_166 dX11_init_661 (by decide)
theorem x166_662 : Ev L xs ρ 166 662 [l0] (.int x :: st) (n, I, Lm, Rm) r ↔ ((n < NNN ∧ (shp n).1 = 2) ∧ (0 ≤ x.toInt ∧ x.toInt = (shp n).2)) ∧ Ev L xs ρ 166 664 [l0] (.ref n :: st) (n + 1, zr2 I n 0, zr2 Lm n 0, zr2 Rm n 0) r := ev_nwc cm_166 dX11_init_662
theorem x166_664 : Ev L xs ρ 166 664 [l0] (.ref a :: st) σ r ↔ Ev L xs ρ 166 665 [l0] (.ref a :: .ref a :: st) σ r := ev_nx (ev_ex cm_166 dX11_init_664 rfl rfl)
theorem x166_665 : Ev L xs ρ 166 665 [l0] st σ r ↔ Ev L xs ρ 166 666 [l0] (.int (0) :: st) σ r := ev_iconst cm_166 dX11_init_665 (by decide)
theorem x166_666 : Ev L xs ρ 166 666 [l0] st σ r ↔ Ev L xs ρ 166 668 [l0] (.int (110) :: st) σ r := ev_bipush cm_166 dX11_init_666 (by decide)
theorem x166_668 : Ev L xs ρ 166 668 [l0] (.int y :: .int x :: .ref a :: st) (n, I, Lm, Rm) r ↔ ((a < n ∧ (shp a).1 = 2) ∧ inb x (shp a).2) ∧ (0 ≤ y.toInt ∧ y.toInt < 65536) ∧ Ev L xs ρ 166 669 [l0] st (n, up2 I a (ixn x) y, Lm, Rm) r := ev_cast cm_166 dX11_init_668
theorem x166_669 : Ev L xs ρ 166 669 [l0] (.ref a :: st) σ r ↔ Ev L xs ρ 166 670 [l0] (.ref a :: .ref a :: st) σ r := ev_nx (ev_ex cm_166 dX11_init_669 rfl rfl)
theorem x166_670 : Ev L xs ρ 166 670 [l0] st σ r ↔ Ev L xs ρ 166 671 [l0] (.int (1) :: st) σ r := ev_iconst cm_166 dX11_init_670 (by decide)
theorem x166_671 : Ev L xs ρ 166 671 [l0] st σ r ↔ Ev L xs ρ 166 673 [l0] (.int (111) :: st) σ r := ev_bipush cm_166 dX11_init_671 (by decide)
theorem x166_673 : Ev L xs ρ 166 673 [l0] (.int y :: .int x :: .ref a :: st) (n, I, Lm, Rm) r ↔ ((a < n ∧ (shp a).1 = 2) ∧ inb x (shp a).2) ∧ (0 ≤ y.toInt ∧ y.toInt < 65536) ∧ Ev L xs ρ 166 674 [l0] st (n, up2 I a (ixn x) y, Lm, Rm) r := ev_cast cm_166 dX11_init_673
theorem x166_674 : Ev L xs ρ 166 674 [l0] (.ref a :: st) σ r ↔ Ev L xs ρ 166 675 [l0] (.ref a :: .ref a :: st) σ r := ev_nx (ev_ex cm_166 dX11_init_674 rfl rfl)
theorem x166_675 : Ev L xs ρ 166 675 [l0] st σ r ↔ Ev L xs ρ 166 676 [l0] (.int (2) :: st) σ r := ev_iconst cm_166 dX11_init_675 (by decide)
theorem x166_676 : Ev L xs ρ 166 676 [l0] st σ r ↔ Ev L xs ρ 166 678 [l0] (.int (116) :: st) σ r := ev_bipush cm_166 dX11_init_676 (by decide)
theorem x166_678 : Ev L xs ρ 166 678 [l0] (.int y :: .int x :: .ref a :: st) (n, I, Lm, Rm) r ↔ ((a < n ∧ (shp a).1 = 2) ∧ inb x (shp a).2) ∧ (0 ≤ y.toInt ∧ y.toInt < 65536) ∧ Ev L xs ρ 166 679 [l0] st (n, up2 I a (ixn x) y, Lm, Rm) r := ev_cast cm_166 dX11_init_678
theorem x166_679 : Ev L xs ρ 166 679 [l0] (.ref b :: .ref a :: st) (n, I, Lm, Rm) r ↔ (a < n ∧ shp a = (0, 11)) ∧ Ev L xs ρ 166 682 [l0] st (n, I, Lm, up2 Rm a 31 (b + 1)) r := ev_ptR cm_166 dX11_init_679 rfl rfl (Or.inr ⟨rfl, rfl⟩)
theorem x166_682 : Ev L xs ρ 166 682 [some (.ref a)] st σ r ↔ Ev L xs ρ 166 683 [some (.ref a)] (.ref a :: st) σ r := ev_aload_n cm_166 dX11_init_682 rfl rfl
theorem x166_683 : Ev L xs ρ 166 683 [l0] st σ r ↔ Ev L xs ρ 166 684 [l0] (.int (3) :: st) σ r := ev_iconst cm_166 dX11_init_683 (by decide)
theorem x166_684 : Ev L xs ρ 166 684 [l0] (.int x :: st) (n, I, Lm, Rm) r ↔ ((n < NNN ∧ (shp n).1 = 2) ∧ (0 ≤ x.toInt ∧ x.toInt = (shp n).2)) ∧ Ev L xs ρ 166 686 [l0] (.ref n :: st) (n + 1, zr2 I n 0, zr2 Lm n 0, zr2 Rm n 0) r := ev_nwc cm_166 dX11_init_684
theorem x166_686 : Ev L xs ρ 166 686 [l0] (.ref a :: st) σ r ↔ Ev L xs ρ 166 687 [l0] (.ref a :: .ref a :: st) σ r := ev_nx (ev_ex cm_166 dX11_init_686 rfl rfl)
theorem x166_687 : Ev L xs ρ 166 687 [l0] st σ r ↔ Ev L xs ρ 166 688 [l0] (.int (0) :: st) σ r := ev_iconst cm_166 dX11_init_687 (by decide)
theorem x166_688 : Ev L xs ρ 166 688 [l0] st σ r ↔ Ev L xs ρ 166 690 [l0] (.int (97) :: st) σ r := ev_bipush cm_166 dX11_init_688 (by decide)
theorem x166_690 : Ev L xs ρ 166 690 [l0] (.int y :: .int x :: .ref a :: st) (n, I, Lm, Rm) r ↔ ((a < n ∧ (shp a).1 = 2) ∧ inb x (shp a).2) ∧ (0 ≤ y.toInt ∧ y.toInt < 65536) ∧ Ev L xs ρ 166 691 [l0] st (n, up2 I a (ixn x) y, Lm, Rm) r := ev_cast cm_166 dX11_init_690
theorem x166_691 : Ev L xs ρ 166 691 [l0] (.ref a :: st) σ r ↔ Ev L xs ρ 166 692 [l0] (.ref a :: .ref a :: st) σ r := ev_nx (ev_ex cm_166 dX11_init_691 rfl rfl)
theorem x166_692 : Ev L xs ρ 166 692 [l0] st σ r ↔ Ev L xs ρ 166 693 [l0] (.int (1) :: st) σ r := ev_iconst cm_166 dX11_init_692 (by decide)
theorem x166_693 : Ev L xs ρ 166 693 [l0] st σ r ↔ Ev L xs ρ 166 695 [l0] (.int (108) :: st) σ r := ev_bipush cm_166 dX11_init_693 (by decide)
theorem x166_695 : Ev L xs ρ 166 695 [l0] (.int y :: .int x :: .ref a :: st) (n, I, Lm, Rm) r ↔ ((a < n ∧ (shp a).1 = 2) ∧ inb x (shp a).2) ∧ (0 ≤ y.toInt ∧ y.toInt < 65536) ∧ Ev L xs ρ 166 696 [l0] st (n, up2 I a (ixn x) y, Lm, Rm) r := ev_cast cm_166 dX11_init_695
theorem x166_696 : Ev L xs ρ 166 696 [l0] (.ref a :: st) σ r ↔ Ev L xs ρ 166 697 [l0] (.ref a :: .ref a :: st) σ r := ev_nx (ev_ex cm_166 dX11_init_696 rfl rfl)
theorem x166_697 : Ev L xs ρ 166 697 [l0] st σ r ↔ Ev L xs ρ 166 698 [l0] (.int (2) :: st) σ r := ev_iconst cm_166 dX11_init_697 (by decide)
theorem x166_698 : Ev L xs ρ 166 698 [l0] st σ r ↔ Ev L xs ρ 166 700 [l0] (.int (108) :: st) σ r := ev_bipush cm_166 dX11_init_698 (by decide)
theorem x166_700 : Ev L xs ρ 166 700 [l0] (.int y :: .int x :: .ref a :: st) (n, I, Lm, Rm) r ↔ ((a < n ∧ (shp a).1 = 2) ∧ inb x (shp a).2) ∧ (0 ≤ y.toInt ∧ y.toInt < 65536) ∧ Ev L xs ρ 166 701 [l0] st (n, up2 I a (ixn x) y, Lm, Rm) r := ev_cast cm_166 dX11_init_700
theorem x166_701 : Ev L xs ρ 166 701 [l0] (.ref b :: .ref a :: st) (n, I, Lm, Rm) r ↔ (a < n ∧ shp a = (0, 11)) ∧ Ev L xs ρ 166 704 [l0] st (n, I, Lm, up2 Rm a 32 (b + 1)) r := ev_ptR cm_166 dX11_init_701 rfl rfl (Or.inr ⟨rfl, rfl⟩)
theorem x166_704 : Ev L xs ρ 166 704 [some (.ref a)] st σ r ↔ Ev L xs ρ 166 705 [some (.ref a)] (.ref a :: st) σ r := ev_aload_n cm_166 dX11_init_704 rfl rfl
theorem x166_705 : Ev L xs ρ 166 705 [l0] st σ r ↔ Ev L xs ρ 166 706 [l0] (.int (4) :: st) σ r := ev_iconst cm_166 dX11_init_705 (by decide)
theorem x166_706 : Ev L xs ρ 166 706 [l0] (.int x :: st) (n, I, Lm, Rm) r ↔ ((n < NNN ∧ (shp n).1 = 2) ∧ (0 ≤ x.toInt ∧ x.toInt = (shp n).2)) ∧ Ev L xs ρ 166 708 [l0] (.ref n :: st) (n + 1, zr2 I n 0, zr2 Lm n 0, zr2 Rm n 0) r := ev_nwc cm_166 dX11_init_706
theorem x166_708 : Ev L xs ρ 166 708 [l0] (.ref a :: st) σ r ↔ Ev L xs ρ 166 709 [l0] (.ref a :: .ref a :: st) σ r := ev_nx (ev_ex cm_166 dX11_init_708 rfl rfl)
theorem x166_709 : Ev L xs ρ 166 709 [l0] st σ r ↔ Ev L xs ρ 166 710 [l0] (.int (0) :: st) σ r := ev_iconst cm_166 dX11_init_709 (by decide)
theorem x166_710 : Ev L xs ρ 166 710 [l0] st σ r ↔ Ev L xs ρ 166 712 [l0] (.int (109) :: st) σ r := ev_bipush cm_166 dX11_init_710 (by decide)
theorem x166_712 : Ev L xs ρ 166 712 [l0] (.int y :: .int x :: .ref a :: st) (n, I, Lm, Rm) r ↔ ((a < n ∧ (shp a).1 = 2) ∧ inb x (shp a).2) ∧ (0 ≤ y.toInt ∧ y.toInt < 65536) ∧ Ev L xs ρ 166 713 [l0] st (n, up2 I a (ixn x) y, Lm, Rm) r := ev_cast cm_166 dX11_init_712
theorem x166_713 : Ev L xs ρ 166 713 [l0] (.ref a :: st) σ r ↔ Ev L xs ρ 166 714 [l0] (.ref a :: .ref a :: st) σ r := ev_nx (ev_ex cm_166 dX11_init_713 rfl rfl)
theorem x166_714 : Ev L xs ρ 166 714 [l0] st σ r ↔ Ev L xs ρ 166 715 [l0] (.int (1) :: st) σ r := ev_iconst cm_166 dX11_init_714 (by decide)
theorem x166_715 : Ev L xs ρ 166 715 [l0] st σ r ↔ Ev L xs ρ 166 717 [l0] (.int (97) :: st) σ r := ev_bipush cm_166 dX11_init_715 (by decide)
theorem x166_717 : Ev L xs ρ 166 717 [l0] (.int y :: .int x :: .ref a :: st) (n, I, Lm, Rm) r ↔ ((a < n ∧ (shp a).1 = 2) ∧ inb x (shp a).2) ∧ (0 ≤ y.toInt ∧ y.toInt < 65536) ∧ Ev L xs ρ 166 718 [l0] st (n, up2 I a (ixn x) y, Lm, Rm) r := ev_cast cm_166 dX11_init_717
theorem x166_718 : Ev L xs ρ 166 718 [l0] (.ref a :: st) σ r ↔ Ev L xs ρ 166 719 [l0] (.ref a :: .ref a :: st) σ r := ev_nx (ev_ex cm_166 dX11_init_718 rfl rfl)
theorem x166_719 : Ev L xs ρ 166 719 [l0] st σ r ↔ Ev L xs ρ 166 720 [l0] (.int (2) :: st) σ r := ev_iconst cm_166 dX11_init_719 (by decide)
theorem x166_720 : Ev L xs ρ 166 720 [l0] st σ r ↔ Ev L xs ρ 166 722 [l0] (.int (110) :: st) σ r := ev_bipush cm_166 dX11_init_720 (by decide)
theorem x166_722 : Ev L xs ρ 166 722 [l0] (.int y :: .int x :: .ref a :: st) (n, I, Lm, Rm) r ↔ ((a < n ∧ (shp a).1 = 2) ∧ inb x (shp a).2) ∧ (0 ≤ y.toInt ∧ y.toInt < 65536) ∧ Ev L xs ρ 166 723 [l0] st (n, up2 I a (ixn x) y, Lm, Rm) r := ev_cast cm_166 dX11_init_722
theorem x166_723 : Ev L xs ρ 166 723 [l0] (.ref a :: st) σ r ↔ Ev L xs ρ 166 724 [l0] (.ref a :: .ref a :: st) σ r := ev_nx (ev_ex cm_166 dX11_init_723 rfl rfl)
theorem x166_724 : Ev L xs ρ 166 724 [l0] st σ r ↔ Ev L xs ρ 166 725 [l0] (.int (3) :: st) σ r := ev_iconst cm_166 dX11_init_724 (by decide)
theorem x166_725 : Ev L xs ρ 166 725 [l0] st σ r ↔ Ev L xs ρ 166 727 [l0] (.int (121) :: st) σ r := ev_bipush cm_166 dX11_init_725 (by decide)
theorem x166_727 : Ev L xs ρ 166 727 [l0] (.int y :: .int x :: .ref a :: st) (n, I, Lm, Rm) r ↔ ((a < n ∧ (shp a).1 = 2) ∧ inb x (shp a).2) ∧ (0 ≤ y.toInt ∧ y.toInt < 65536) ∧ Ev L xs ρ 166 728 [l0] st (n, up2 I a (ixn x) y, Lm, Rm) r := ev_cast cm_166 dX11_init_727
theorem x166_728 : Ev L xs ρ 166 728 [l0] (.ref b :: .ref a :: st) (n, I, Lm, Rm) r ↔ (a < n ∧ shp a = (0, 11)) ∧ Ev L xs ρ 166 731 [l0] st (n, I, Lm, up2 Rm a 33 (b + 1)) r := ev_ptR cm_166 dX11_init_728 rfl rfl (Or.inr ⟨rfl, rfl⟩)
theorem x166_731 : Ev L xs ρ 166 731 [some (.ref a)] st σ r ↔ Ev L xs ρ 166 732 [some (.ref a)] (.ref a :: st) σ r := ev_aload_n cm_166 dX11_init_731 rfl rfl
theorem x166_732 : Ev L xs ρ 166 732 [l0] st σ r ↔ Ev L xs ρ 166 733 [l0] (.int (4) :: st) σ r := ev_iconst cm_166 dX11_init_732 (by decide)
theorem x166_733 : Ev L xs ρ 166 733 [l0] (.int x :: st) (n, I, Lm, Rm) r ↔ ((n < NNN ∧ (shp n).1 = 2) ∧ (0 ≤ x.toInt ∧ x.toInt = (shp n).2)) ∧ Ev L xs ρ 166 735 [l0] (.ref n :: st) (n + 1, zr2 I n 0, zr2 Lm n 0, zr2 Rm n 0) r := ev_nwc cm_166 dX11_init_733
theorem x166_735 : Ev L xs ρ 166 735 [l0] (.ref a :: st) σ r ↔ Ev L xs ρ 166 736 [l0] (.ref a :: .ref a :: st) σ r := ev_nx (ev_ex cm_166 dX11_init_735 rfl rfl)
theorem x166_736 : Ev L xs ρ 166 736 [l0] st σ r ↔ Ev L xs ρ 166 737 [l0] (.int (0) :: st) σ r := ev_iconst cm_166 dX11_init_736 (by decide)
theorem x166_737 : Ev L xs ρ 166 737 [l0] st σ r ↔ Ev L xs ρ 166 739 [l0] (.int (119) :: st) σ r := ev_bipush cm_166 dX11_init_737 (by decide)
theorem x166_739 : Ev L xs ρ 166 739 [l0] (.int y :: .int x :: .ref a :: st) (n, I, Lm, Rm) r ↔ ((a < n ∧ (shp a).1 = 2) ∧ inb x (shp a).2) ∧ (0 ≤ y.toInt ∧ y.toInt < 65536) ∧ Ev L xs ρ 166 740 [l0] st (n, up2 I a (ixn x) y, Lm, Rm) r := ev_cast cm_166 dX11_init_739
theorem x166_740 : Ev L xs ρ 166 740 [l0] (.ref a :: st) σ r ↔ Ev L xs ρ 166 741 [l0] (.ref a :: .ref a :: st) σ r := ev_nx (ev_ex cm_166 dX11_init_740 rfl rfl)
theorem x166_741 : Ev L xs ρ 166 741 [l0] st σ r ↔ Ev L xs ρ 166 742 [l0] (.int (1) :: st) σ r := ev_iconst cm_166 dX11_init_741 (by decide)
theorem x166_742 : Ev L xs ρ 166 742 [l0] st σ r ↔ Ev L xs ρ 166 744 [l0] (.int (101) :: st) σ r := ev_bipush cm_166 dX11_init_742 (by decide)
theorem x166_744 : Ev L xs ρ 166 744 [l0] (.int y :: .int x :: .ref a :: st) (n, I, Lm, Rm) r ↔ ((a < n ∧ (shp a).1 = 2) ∧ inb x (shp a).2) ∧ (0 ≤ y.toInt ∧ y.toInt < 65536) ∧ Ev L xs ρ 166 745 [l0] st (n, up2 I a (ixn x) y, Lm, Rm) r := ev_cast cm_166 dX11_init_744
theorem x166_745 : Ev L xs ρ 166 745 [l0] (.ref a :: st) σ r ↔ Ev L xs ρ 166 746 [l0] (.ref a :: .ref a :: st) σ r := ev_nx (ev_ex cm_166 dX11_init_745 rfl rfl)
theorem x166_746 : Ev L xs ρ 166 746 [l0] st σ r ↔ Ev L xs ρ 166 747 [l0] (.int (2) :: st) σ r := ev_iconst cm_166 dX11_init_746 (by decide)
theorem x166_747 : Ev L xs ρ 166 747 [l0] st σ r ↔ Ev L xs ρ 166 749 [l0] (.int (101) :: st) σ r := ev_bipush cm_166 dX11_init_747 (by decide)
theorem x166_749 : Ev L xs ρ 166 749 [l0] (.int y :: .int x :: .ref a :: st) (n, I, Lm, Rm) r ↔ ((a < n ∧ (shp a).1 = 2) ∧ inb x (shp a).2) ∧ (0 ≤ y.toInt ∧ y.toInt < 65536) ∧ Ev L xs ρ 166 750 [l0] st (n, up2 I a (ixn x) y, Lm, Rm) r := ev_cast cm_166 dX11_init_749
theorem x166_750 : Ev L xs ρ 166 750 [l0] (.ref a :: st) σ r ↔ Ev L xs ρ 166 751 [l0] (.ref a :: .ref a :: st) σ r := ev_nx (ev_ex cm_166 dX11_init_750 rfl rfl)
theorem x166_751 : Ev L xs ρ 166 751 [l0] st σ r ↔ Ev L xs ρ 166 752 [l0] (.int (3) :: st) σ r := ev_iconst cm_166 dX11_init_751 (by decide)
theorem x166_752 : Ev L xs ρ 166 752 [l0] st σ r ↔ Ev L xs ρ 166 754 [l0] (.int (107) :: st) σ r := ev_bipush cm_166 dX11_init_752 (by decide)
theorem x166_754 : Ev L xs ρ 166 754 [l0] (.int y :: .int x :: .ref a :: st) (n, I, Lm, Rm) r ↔ ((a < n ∧ (shp a).1 = 2) ∧ inb x (shp a).2) ∧ (0 ≤ y.toInt ∧ y.toInt < 65536) ∧ Ev L xs ρ 166 755 [l0] st (n, up2 I a (ixn x) y, Lm, Rm) r := ev_cast cm_166 dX11_init_754
theorem x166_755 : Ev L xs ρ 166 755 [l0] (.ref b :: .ref a :: st) (n, I, Lm, Rm) r ↔ (a < n ∧ shp a = (0, 11)) ∧ Ev L xs ρ 166 758 [l0] st (n, I, Lm, up2 Rm a 34 (b + 1)) r := ev_ptR cm_166 dX11_init_755 rfl rfl (Or.inr ⟨rfl, rfl⟩)
theorem x166_758 : Ev L xs ρ 166 758 [some (.ref a)] st σ r ↔ Ev L xs ρ 166 759 [some (.ref a)] (.ref a :: st) σ r := ev_aload_n cm_166 dX11_init_758 rfl rfl
theorem x166_759 : Ev L xs ρ 166 759 [l0] st σ r ↔ Ev L xs ρ 166 760 [l0] (.int (4) :: st) σ r := ev_iconst cm_166 dX11_init_759 (by decide)
theorem x166_760 : Ev L xs ρ 166 760 [l0] (.int x :: st) (n, I, Lm, Rm) r ↔ ((n < NNN ∧ (shp n).1 = 2) ∧ (0 ≤ x.toInt ∧ x.toInt = (shp n).2)) ∧ Ev L xs ρ 166 762 [l0] (.ref n :: st) (n + 1, zr2 I n 0, zr2 Lm n 0, zr2 Rm n 0) r := ev_nwc cm_166 dX11_init_760
theorem x166_762 : Ev L xs ρ 166 762 [l0] (.ref a :: st) σ r ↔ Ev L xs ρ 166 763 [l0] (.ref a :: .ref a :: st) σ r := ev_nx (ev_ex cm_166 dX11_init_762 rfl rfl)
theorem x166_763 : Ev L xs ρ 166 763 [l0] st σ r ↔ Ev L xs ρ 166 764 [l0] (.int (0) :: st) σ r := ev_iconst cm_166 dX11_init_763 (by decide)
theorem x166_764 : Ev L xs ρ 166 764 [l0] st σ r ↔ Ev L xs ρ 166 766 [l0] (.int (108) :: st) σ r := ev_bipush cm_166 dX11_init_764 (by decide)
theorem x166_766 : Ev L xs ρ 166 766 [l0] (.int y :: .int x :: .ref a :: st) (n, I, Lm, Rm) r ↔ ((a < n ∧ (shp a).1 = 2) ∧ inb x (shp a).2) ∧ (0 ≤ y.toInt ∧ y.toInt < 65536) ∧ Ev L xs ρ 166 767 [l0] st (n, up2 I a (ixn x) y, Lm, Rm) r := ev_cast cm_166 dX11_init_766
theorem x166_767 : Ev L xs ρ 166 767 [l0] (.ref a :: st) σ r ↔ Ev L xs ρ 166 768 [l0] (.ref a :: .ref a :: st) σ r := ev_nx (ev_ex cm_166 dX11_init_767 rfl rfl)
theorem x166_768 : Ev L xs ρ 166 768 [l0] st σ r ↔ Ev L xs ρ 166 769 [l0] (.int (1) :: st) σ r := ev_iconst cm_166 dX11_init_768 (by decide)
theorem x166_769 : Ev L xs ρ 166 769 [l0] st σ r ↔ Ev L xs ρ 166 771 [l0] (.int (97) :: st) σ r := ev_bipush cm_166 dX11_init_769 (by decide)
theorem x166_771 : Ev L xs ρ 166 771 [l0] (.int y :: .int x :: .ref a :: st) (n, I, Lm, Rm) r ↔ ((a < n ∧ (shp a).1 = 2) ∧ inb x (shp a).2) ∧ (0 ≤ y.toInt ∧ y.toInt < 65536) ∧ Ev L xs ρ 166 772 [l0] st (n, up2 I a (ixn x) y, Lm, Rm) r := ev_cast cm_166 dX11_init_771
theorem x166_772 : Ev L xs ρ 166 772 [l0] (.ref a :: st) σ r ↔ Ev L xs ρ 166 773 [l0] (.ref a :: .ref a :: st) σ r := ev_nx (ev_ex cm_166 dX11_init_772 rfl rfl)
theorem x166_773 : Ev L xs ρ 166 773 [l0] st σ r ↔ Ev L xs ρ 166 774 [l0] (.int (2) :: st) σ r := ev_iconst cm_166 dX11_init_773 (by decide)
theorem x166_774 : Ev L xs ρ 166 774 [l0] st σ r ↔ Ev L xs ρ 166 776 [l0] (.int (115) :: st) σ r := ev_bipush cm_166 dX11_init_774 (by decide)
theorem x166_776 : Ev L xs ρ 166 776 [l0] (.int y :: .int x :: .ref a :: st) (n, I, Lm, Rm) r ↔ ((a < n ∧ (shp a).1 = 2) ∧ inb x (shp a).2) ∧ (0 ≤ y.toInt ∧ y.toInt < 65536) ∧ Ev L xs ρ 166 777 [l0] st (n, up2 I a (ixn x) y, Lm, Rm) r := ev_cast cm_166 dX11_init_776
theorem x166_777 : Ev L xs ρ 166 777 [l0] (.ref a :: st) σ r ↔ Ev L xs ρ 166 778 [l0] (.ref a :: .ref a :: st) σ r := ev_nx (ev_ex cm_166 dX11_init_777 rfl rfl)
theorem x166_778 : Ev L xs ρ 166 778 [l0] st σ r ↔ Ev L xs ρ 166 779 [l0] (.int (3) :: st) σ r := ev_iconst cm_166 dX11_init_778 (by decide)
theorem x166_779 : Ev L xs ρ 166 779 [l0] st σ r ↔ Ev L xs ρ 166 781 [l0] (.int (116) :: st) σ r := ev_bipush cm_166 dX11_init_779 (by decide)
theorem x166_781 : Ev L xs ρ 166 781 [l0] (.int y :: .int x :: .ref a :: st) (n, I, Lm, Rm) r ↔ ((a < n ∧ (shp a).1 = 2) ∧ inb x (shp a).2) ∧ (0 ≤ y.toInt ∧ y.toInt < 65536) ∧ Ev L xs ρ 166 782 [l0] st (n, up2 I a (ixn x) y, Lm, Rm) r := ev_cast cm_166 dX11_init_781
theorem x166_782 : Ev L xs ρ 166 782 [l0] (.ref b :: .ref a :: st) (n, I, Lm, Rm) r ↔ (a < n ∧ shp a = (0, 11)) ∧ Ev L xs ρ 166 785 [l0] st (n, I, Lm, up2 Rm a 35 (b + 1)) r := ev_ptR cm_166 dX11_init_782 rfl rfl (Or.inr ⟨rfl, rfl⟩)
theorem x166_785 : Ev L xs ρ 166 785 [some (.ref a)] st σ r ↔ Ev L xs ρ 166 786 [some (.ref a)] (.ref a :: st) σ r := ev_aload_n cm_166 dX11_init_785 rfl rfl
theorem x166_786 : Ev L xs ρ 166 786 [l0] st σ r ↔ Ev L xs ρ 166 787 [l0] (.int (4) :: st) σ r := ev_iconst cm_166 dX11_init_786 (by decide)
theorem x166_787 : Ev L xs ρ 166 787 [l0] (.int x :: st) (n, I, Lm, Rm) r ↔ ((n < NNN ∧ (shp n).1 = 2) ∧ (0 ≤ x.toInt ∧ x.toInt = (shp n).2)) ∧ Ev L xs ρ 166 789 [l0] (.ref n :: st) (n + 1, zr2 I n 0, zr2 Lm n 0, zr2 Rm n 0) r := ev_nwc cm_166 dX11_init_787
theorem x166_789 : Ev L xs ρ 166 789 [l0] (.ref a :: st) σ r ↔ Ev L xs ρ 166 790 [l0] (.ref a :: .ref a :: st) σ r := ev_nx (ev_ex cm_166 dX11_init_789 rfl rfl)
theorem x166_790 : Ev L xs ρ 166 790 [l0] st σ r ↔ Ev L xs ρ 166 791 [l0] (.int (0) :: st) σ r := ev_iconst cm_166 dX11_init_790 (by decide)
theorem x166_791 : Ev L xs ρ 166 791 [l0] st σ r ↔ Ev L xs ρ 166 793 [l0] (.int (109) :: st) σ r := ev_bipush cm_166 dX11_init_791 (by decide)
theorem x166_793 : Ev L xs ρ 166 793 [l0] (.int y :: .int x :: .ref a :: st) (n, I, Lm, Rm) r ↔ ((a < n ∧ (shp a).1 = 2) ∧ inb x (shp a).2) ∧ (0 ≤ y.toInt ∧ y.toInt < 65536) ∧ Ev L xs ρ 166 794 [l0] st (n, up2 I a (ixn x) y, Lm, Rm) r := ev_cast cm_166 dX11_init_793
theorem x166_794 : Ev L xs ρ 166 794 [l0] (.ref a :: st) σ r ↔ Ev L xs ρ 166 795 [l0] (.ref a :: .ref a :: st) σ r := ev_nx (ev_ex cm_166 dX11_init_794 rfl rfl)
theorem x166_795 : Ev L xs ρ 166 795 [l0] st σ r ↔ Ev L xs ρ 166 796 [l0] (.int (1) :: st) σ r := ev_iconst cm_166 dX11_init_795 (by decide)
theorem x166_796 : Ev L xs ρ 166 796 [l0] st σ r ↔ Ev L xs ρ 166 798 [l0] (.int (111) :: st) σ r := ev_bipush cm_166 dX11_init_796 (by decide)
theorem x166_798 : Ev L xs ρ 166 798 [l0] (.int y :: .int x :: .ref a :: st) (n, I, Lm, Rm) r ↔ ((a < n ∧ (shp a).1 = 2) ∧ inb x (shp a).2) ∧ (0 ≤ y.toInt ∧ y.toInt < 65536) ∧ Ev L xs ρ 166 799 [l0] st (n, up2 I a (ixn x) y, Lm, Rm) r := ev_cast cm_166 dX11_init_798
theorem x166_799 : Ev L xs ρ 166 799 [l0] (.ref a :: st) σ r ↔ Ev L xs ρ 166 800 [l0] (.ref a :: .ref a :: st) σ r := ev_nx (ev_ex cm_166 dX11_init_799 rfl rfl)
theorem x166_800 : Ev L xs ρ 166 800 [l0] st σ r ↔ Ev L xs ρ 166 801 [l0] (.int (2) :: st) σ r := ev_iconst cm_166 dX11_init_800 (by decide)
theorem x166_801 : Ev L xs ρ 166 801 [l0] st σ r ↔ Ev L xs ρ 166 803 [l0] (.int (115) :: st) σ r := ev_bipush cm_166 dX11_init_801 (by decide)
theorem x166_803 : Ev L xs ρ 166 803 [l0] (.int y :: .int x :: .ref a :: st) (n, I, Lm, Rm) r ↔ ((a < n ∧ (shp a).1 = 2) ∧ inb x (shp a).2) ∧ (0 ≤ y.toInt ∧ y.toInt < 65536) ∧ Ev L xs ρ 166 804 [l0] st (n, up2 I a (ixn x) y, Lm, Rm) r := ev_cast cm_166 dX11_init_803
theorem x166_804 : Ev L xs ρ 166 804 [l0] (.ref a :: st) σ r ↔ Ev L xs ρ 166 805 [l0] (.ref a :: .ref a :: st) σ r := ev_nx (ev_ex cm_166 dX11_init_804 rfl rfl)
theorem x166_805 : Ev L xs ρ 166 805 [l0] st σ r ↔ Ev L xs ρ 166 806 [l0] (.int (3) :: st) σ r := ev_iconst cm_166 dX11_init_805 (by decide)
theorem x166_806 : Ev L xs ρ 166 806 [l0] st σ r ↔ Ev L xs ρ 166 808 [l0] (.int (116) :: st) σ r := ev_bipush cm_166 dX11_init_806 (by decide)
theorem x166_808 : Ev L xs ρ 166 808 [l0] (.int y :: .int x :: .ref a :: st) (n, I, Lm, Rm) r ↔ ((a < n ∧ (shp a).1 = 2) ∧ inb x (shp a).2) ∧ (0 ≤ y.toInt ∧ y.toInt < 65536) ∧ Ev L xs ρ 166 809 [l0] st (n, up2 I a (ixn x) y, Lm, Rm) r := ev_cast cm_166 dX11_init_808
theorem x166_809 : Ev L xs ρ 166 809 [l0] (.ref b :: .ref a :: st) (n, I, Lm, Rm) r ↔ (a < n ∧ shp a = (0, 11)) ∧ Ev L xs ρ 166 812 [l0] st (n, I, Lm, up2 Rm a 36 (b + 1)) r := ev_ptR cm_166 dX11_init_809 rfl rfl (Or.inr ⟨rfl, rfl⟩)
theorem x166_812 : Ev L xs ρ 166 812 [some (.ref a)] st σ r ↔ Ev L xs ρ 166 813 [some (.ref a)] (.ref a :: st) σ r := ev_aload_n cm_166 dX11_init_812 rfl rfl
theorem x166_813 : Ev L xs ρ 166 813 [l0] st σ r ↔ Ev L xs ρ 166 814 [l0] (.int (5) :: st) σ r := ev_iconst cm_166 dX11_init_813 (by decide)
theorem x166_814 : Ev L xs ρ 166 814 [l0] (.int x :: st) (n, I, Lm, Rm) r ↔ ((n < NNN ∧ (shp n).1 = 2) ∧ (0 ≤ x.toInt ∧ x.toInt = (shp n).2)) ∧ Ev L xs ρ 166 816 [l0] (.ref n :: st) (n + 1, zr2 I n 0, zr2 Lm n 0, zr2 Rm n 0) r := ev_nwc cm_166 dX11_init_814
theorem x166_816 : Ev L xs ρ 166 816 [l0] (.ref a :: st) σ r ↔ Ev L xs ρ 166 817 [l0] (.ref a :: .ref a :: st) σ r := ev_nx (ev_ex cm_166 dX11_init_816 rfl rfl)
theorem x166_817 : Ev L xs ρ 166 817 [l0] st σ r ↔ Ev L xs ρ 166 818 [l0] (.int (0) :: st) σ r := ev_iconst cm_166 dX11_init_817 (by decide)
theorem x166_818 : Ev L xs ρ 166 818 [l0] st σ r ↔ Ev L xs ρ 166 820 [l0] (.int (100) :: st) σ r := ev_bipush cm_166 dX11_init_818 (by decide)
theorem x166_820 : Ev L xs ρ 166 820 [l0] (.int y :: .int x :: .ref a :: st) (n, I, Lm, Rm) r ↔ ((a < n ∧ (shp a).1 = 2) ∧ inb x (shp a).2) ∧ (0 ≤ y.toInt ∧ y.toInt < 65536) ∧ Ev L xs ρ 166 821 [l0] st (n, up2 I a (ixn x) y, Lm, Rm) r := ev_cast cm_166 dX11_init_820
theorem x166_821 : Ev L xs ρ 166 821 [l0] (.ref a :: st) σ r ↔ Ev L xs ρ 166 822 [l0] (.ref a :: .ref a :: st) σ r := ev_nx (ev_ex cm_166 dX11_init_821 rfl rfl)
theorem x166_822 : Ev L xs ρ 166 822 [l0] st σ r ↔ Ev L xs ρ 166 823 [l0] (.int (1) :: st) σ r := ev_iconst cm_166 dX11_init_822 (by decide)
theorem x166_823 : Ev L xs ρ 166 823 [l0] st σ r ↔ Ev L xs ρ 166 825 [l0] (.int (114) :: st) σ r := ev_bipush cm_166 dX11_init_823 (by decide)
theorem x166_825 : Ev L xs ρ 166 825 [l0] (.int y :: .int x :: .ref a :: st) (n, I, Lm, Rm) r ↔ ((a < n ∧ (shp a).1 = 2) ∧ inb x (shp a).2) ∧ (0 ≤ y.toInt ∧ y.toInt < 65536) ∧ Ev L xs ρ 166 826 [l0] st (n, up2 I a (ixn x) y, Lm, Rm) r := ev_cast cm_166 dX11_init_825
theorem x166_826 : Ev L xs ρ 166 826 [l0] (.ref a :: st) σ r ↔ Ev L xs ρ 166 827 [l0] (.ref a :: .ref a :: st) σ r := ev_nx (ev_ex cm_166 dX11_init_826 rfl rfl)
theorem x166_827 : Ev L xs ρ 166 827 [l0] st σ r ↔ Ev L xs ρ 166 828 [l0] (.int (2) :: st) σ r := ev_iconst cm_166 dX11_init_827 (by decide)
theorem x166_828 : Ev L xs ρ 166 828 [l0] st σ r ↔ Ev L xs ρ 166 830 [l0] (.int (97) :: st) σ r := ev_bipush cm_166 dX11_init_828 (by decide)
theorem x166_830 : Ev L xs ρ 166 830 [l0] (.int y :: .int x :: .ref a :: st) (n, I, Lm, Rm) r ↔ ((a < n ∧ (shp a).1 = 2) ∧ inb x (shp a).2) ∧ (0 ≤ y.toInt ∧ y.toInt < 65536) ∧ Ev L xs ρ 166 831 [l0] st (n, up2 I a (ixn x) y, Lm, Rm) r := ev_cast cm_166 dX11_init_830
theorem x166_831 : Ev L xs ρ 166 831 [l0] (.ref a :: st) σ r ↔ Ev L xs ρ 166 832 [l0] (.ref a :: .ref a :: st) σ r := ev_nx (ev_ex cm_166 dX11_init_831 rfl rfl)
theorem x166_832 : Ev L xs ρ 166 832 [l0] st σ r ↔ Ev L xs ρ 166 833 [l0] (.int (3) :: st) σ r := ev_iconst cm_166 dX11_init_832 (by decide)
theorem x166_833 : Ev L xs ρ 166 833 [l0] st σ r ↔ Ev L xs ρ 166 835 [l0] (.int (119) :: st) σ r := ev_bipush cm_166 dX11_init_833 (by decide)
theorem x166_835 : Ev L xs ρ 166 835 [l0] (.int y :: .int x :: .ref a :: st) (n, I, Lm, Rm) r ↔ ((a < n ∧ (shp a).1 = 2) ∧ inb x (shp a).2) ∧ (0 ≤ y.toInt ∧ y.toInt < 65536) ∧ Ev L xs ρ 166 836 [l0] st (n, up2 I a (ixn x) y, Lm, Rm) r := ev_cast cm_166 dX11_init_835
theorem x166_836 : Ev L xs ρ 166 836 [l0] (.ref a :: st) σ r ↔ Ev L xs ρ 166 837 [l0] (.ref a :: .ref a :: st) σ r := ev_nx (ev_ex cm_166 dX11_init_836 rfl rfl)
theorem x166_837 : Ev L xs ρ 166 837 [l0] st σ r ↔ Ev L xs ρ 166 838 [l0] (.int (4) :: st) σ r := ev_iconst cm_166 dX11_init_837 (by decide)
theorem x166_838 : Ev L xs ρ 166 838 [l0] st σ r ↔ Ev L xs ρ 166 840 [l0] (.int (110) :: st) σ r := ev_bipush cm_166 dX11_init_838 (by decide)
theorem x166_840 : Ev L xs ρ 166 840 [l0] (.int y :: .int x :: .ref a :: st) (n, I, Lm, Rm) r ↔ ((a < n ∧ (shp a).1 = 2) ∧ inb x (shp a).2) ∧ (0 ≤ y.toInt ∧ y.toInt < 65536) ∧ Ev L xs ρ 166 841 [l0] st (n, up2 I a (ixn x) y, Lm, Rm) r := ev_cast cm_166 dX11_init_840
theorem x166_841 : Ev L xs ρ 166 841 [l0] (.ref b :: .ref a :: st) (n, I, Lm, Rm) r ↔ (a < n ∧ shp a = (0, 11)) ∧ Ev L xs ρ 166 844 [l0] st (n, I, Lm, up2 Rm a 37 (b + 1)) r := ev_ptR cm_166 dX11_init_841 rfl rfl (Or.inr ⟨rfl, rfl⟩)
theorem x166_844 : Ev L xs ρ 166 844 [some (.ref a)] st σ r ↔ Ev L xs ρ 166 845 [some (.ref a)] (.ref a :: st) σ r := ev_aload_n cm_166 dX11_init_844 rfl rfl
theorem x166_845 : Ev L xs ρ 166 845 [l0] st σ r ↔ Ev L xs ρ 166 846 [l0] (.int (3) :: st) σ r := ev_iconst cm_166 dX11_init_845 (by decide)
theorem x166_846 : Ev L xs ρ 166 846 [l0] (.int x :: st) (n, I, Lm, Rm) r ↔ ((n < NNN ∧ (shp n).1 = 2) ∧ (0 ≤ x.toInt ∧ x.toInt = (shp n).2)) ∧ Ev L xs ρ 166 848 [l0] (.ref n :: st) (n + 1, zr2 I n 0, zr2 Lm n 0, zr2 Rm n 0) r := ev_nwc cm_166 dX11_init_846
theorem x166_848 : Ev L xs ρ 166 848 [l0] (.ref a :: st) σ r ↔ Ev L xs ρ 166 849 [l0] (.ref a :: .ref a :: st) σ r := ev_nx (ev_ex cm_166 dX11_init_848 rfl rfl)
theorem x166_849 : Ev L xs ρ 166 849 [l0] st σ r ↔ Ev L xs ρ 166 850 [l0] (.int (0) :: st) σ r := ev_iconst cm_166 dX11_init_849 (by decide)
theorem x166_850 : Ev L xs ρ 166 850 [l0] st σ r ↔ Ev L xs ρ 166 852 [l0] (.int (111) :: st) σ r := ev_bipush cm_166 dX11_init_850 (by decide)
theorem x166_852 : Ev L xs ρ 166 852 [l0] (.int y :: .int x :: .ref a :: st) (n, I, Lm, Rm) r ↔ ((a < n ∧ (shp a).1 = 2) ∧ inb x (shp a).2) ∧ (0 ≤ y.toInt ∧ y.toInt < 65536) ∧ Ev L xs ρ 166 853 [l0] st (n, up2 I a (ixn x) y, Lm, Rm) r := ev_cast cm_166 dX11_init_852
theorem x166_853 : Ev L xs ρ 166 853 [l0] (.ref a :: st) σ r ↔ Ev L xs ρ 166 854 [l0] (.ref a :: .ref a :: st) σ r := ev_nx (ev_ex cm_166 dX11_init_853 rfl rfl)
theorem x166_854 : Ev L xs ρ 166 854 [l0] st σ r ↔ Ev L xs ρ 166 855 [l0] (.int (1) :: st) σ r := ev_iconst cm_166 dX11_init_854 (by decide)
theorem x166_855 : Ev L xs ρ 166 855 [l0] st σ r ↔ Ev L xs ρ 166 857 [l0] (.int (119) :: st) σ r := ev_bipush cm_166 dX11_init_855 (by decide)
theorem x166_857 : Ev L xs ρ 166 857 [l0] (.int y :: .int x :: .ref a :: st) (n, I, Lm, Rm) r ↔ ((a < n ∧ (shp a).1 = 2) ∧ inb x (shp a).2) ∧ (0 ≤ y.toInt ∧ y.toInt < 65536) ∧ Ev L xs ρ 166 858 [l0] st (n, up2 I a (ixn x) y, Lm, Rm) r := ev_cast cm_166 dX11_init_857
theorem x166_858 : Ev L xs ρ 166 858 [l0] (.ref a :: st) σ r ↔ Ev L xs ρ 166 859 [l0] (.ref a :: .ref a :: st) σ r := ev_nx (ev_ex cm_166 dX11_init_858 rfl rfl)
theorem x166_859 : Ev L xs ρ 166 859 [l0] st σ r ↔ Ev L xs ρ 166 860 [l0] (.int (2) :: st) σ r := ev_iconst cm_166 dX11_init_859 (by decide)
theorem x166_860 : Ev L xs ρ 166 860 [l0] st σ r ↔ Ev L xs ρ 166 862 [l0] (.int (110) :: st) σ r := ev_bipush cm_166 dX11_init_860 (by decide)
theorem x166_862 : Ev L xs ρ 166 862 [l0] (.int y :: .int x :: .ref a :: st) (n, I, Lm, Rm) r ↔ ((a < n ∧ (shp a).1 = 2) ∧ inb x (shp a).2) ∧ (0 ≤ y.toInt ∧ y.toInt < 65536) ∧ Ev L xs ρ 166 863 [l0] st (n, up2 I a (ixn x) y, Lm, Rm) r := ev_cast cm_166 dX11_init_862
theorem x166_863 : Ev L xs ρ 166 863 [l0] (.ref b :: .ref a :: st) (n, I, Lm, Rm) r ↔ (a < n ∧ shp a = (0, 11)) ∧ Ev L xs ρ 166 866 [l0] st (n, I, Lm, up2 Rm a 38 (b + 1)) r := ev_ptR cm_166 dX11_init_863 rfl rfl (Or.inr ⟨rfl, rfl⟩)
theorem x166_866 : Ev L xs ρ 166 866 [some (.ref a)] st σ r ↔ Ev L xs ρ 166 867 [some (.ref a)] (.ref a :: st) σ r := ev_aload_n cm_166 dX11_init_866 rfl rfl
theorem x166_867 : Ev L xs ρ 166 867 [l0] st σ r ↔ Ev L xs ρ 166 868 [l0] (.int (4) :: st) σ r := ev_iconst cm_166 dX11_init_867 (by decide)
theorem x166_868 : Ev L xs ρ 166 868 [l0] (.int x :: st) (n, I, Lm, Rm) r ↔ ((n < NNN ∧ (shp n).1 = 2) ∧ (0 ≤ x.toInt ∧ x.toInt = (shp n).2)) ∧ Ev L xs ρ 166 870 [l0] (.ref n :: st) (n + 1, zr2 I n 0, zr2 Lm n 0, zr2 Rm n 0) r := ev_nwc cm_166 dX11_init_868
theorem x166_870 : Ev L xs ρ 166 870 [l0] (.ref a :: st) σ r ↔ Ev L xs ρ 166 871 [l0] (.ref a :: .ref a :: st) σ r := ev_nx (ev_ex cm_166 dX11_init_870 rfl rfl)
theorem x166_871 : Ev L xs ρ 166 871 [l0] st σ r ↔ Ev L xs ρ 166 872 [l0] (.int (0) :: st) σ r := ev_iconst cm_166 dX11_init_871 (by decide)
theorem x166_872 : Ev L xs ρ 166 872 [l0] st σ r ↔ Ev L xs ρ 166 874 [l0] (.int (107) :: st) σ r := ev_bipush cm_166 dX11_init_872 (by decide)
theorem x166_874 : Ev L xs ρ 166 874 [l0] (.int y :: .int x :: .ref a :: st) (n, I, Lm, Rm) r ↔ ((a < n ∧ (shp a).1 = 2) ∧ inb x (shp a).2) ∧ (0 ≤ y.toInt ∧ y.toInt < 65536) ∧ Ev L xs ρ 166 875 [l0] st (n, up2 I a (ixn x) y, Lm, Rm) r := ev_cast cm_166 dX11_init_874
theorem x166_875 : Ev L xs ρ 166 875 [l0] (.ref a :: st) σ r ↔ Ev L xs ρ 166 876 [l0] (.ref a :: .ref a :: st) σ r := ev_nx (ev_ex cm_166 dX11_init_875 rfl rfl)
theorem x166_876 : Ev L xs ρ 166 876 [l0] st σ r ↔ Ev L xs ρ 166 877 [l0] (.int (1) :: st) σ r := ev_iconst cm_166 dX11_init_876 (by decide)
theorem x166_877 : Ev L xs ρ 166 877 [l0] st σ r ↔ Ev L xs ρ 166 879 [l0] (.int (101) :: st) σ r := ev_bipush cm_166 dX11_init_877 (by decide)
theorem x166_879 : Ev L xs ρ 166 879 [l0] (.int y :: .int x :: .ref a :: st) (n, I, Lm, Rm) r ↔ ((a < n ∧ (shp a).1 = 2) ∧ inb x (shp a).2) ∧ (0 ≤ y.toInt ∧ y.toInt < 65536) ∧ Ev L xs ρ 166 880 [l0] st (n, up2 I a (ixn x) y, Lm, Rm) r := ev_cast cm_166 dX11_init_879
theorem x166_880 : Ev L xs ρ 166 880 [l0] (.ref a :: st) σ r ↔ Ev L xs ρ 166 881 [l0] (.ref a :: .ref a :: st) σ r := ev_nx (ev_ex cm_166 dX11_init_880 rfl rfl)
theorem x166_881 : Ev L xs ρ 166 881 [l0] st σ r ↔ Ev L xs ρ 166 882 [l0] (.int (2) :: st) σ r := ev_iconst cm_166 dX11_init_881 (by decide)
theorem x166_882 : Ev L xs ρ 166 882 [l0] st σ r ↔ Ev L xs ρ 166 884 [l0] (.int (112) :: st) σ r := ev_bipush cm_166 dX11_init_882 (by decide)
theorem x166_884 : Ev L xs ρ 166 884 [l0] (.int y :: .int x :: .ref a :: st) (n, I, Lm, Rm) r ↔ ((a < n ∧ (shp a).1 = 2) ∧ inb x (shp a).2) ∧ (0 ≤ y.toInt ∧ y.toInt < 65536) ∧ Ev L xs ρ 166 885 [l0] st (n, up2 I a (ixn x) y, Lm, Rm) r := ev_cast cm_166 dX11_init_884
theorem x166_885 : Ev L xs ρ 166 885 [l0] (.ref a :: st) σ r ↔ Ev L xs ρ 166 886 [l0] (.ref a :: .ref a :: st) σ r := ev_nx (ev_ex cm_166 dX11_init_885 rfl rfl)
theorem x166_886 : Ev L xs ρ 166 886 [l0] st σ r ↔ Ev L xs ρ 166 887 [l0] (.int (3) :: st) σ r := ev_iconst cm_166 dX11_init_886 (by decide)
theorem x166_887 : Ev L xs ρ 166 887 [l0] st σ r ↔ Ev L xs ρ 166 889 [l0] (.int (116) :: st) σ r := ev_bipush cm_166 dX11_init_887 (by decide)
theorem x166_889 : Ev L xs ρ 166 889 [l0] (.int y :: .int x :: .ref a :: st) (n, I, Lm, Rm) r ↔ ((a < n ∧ (shp a).1 = 2) ∧ inb x (shp a).2) ∧ (0 ≤ y.toInt ∧ y.toInt < 65536) ∧ Ev L xs ρ 166 890 [l0] st (n, up2 I a (ixn x) y, Lm, Rm) r := ev_cast cm_166 dX11_init_889
theorem x166_890 : Ev L xs ρ 166 890 [l0] (.ref b :: .ref a :: st) (n, I, Lm, Rm) r ↔ (a < n ∧ shp a = (0, 11)) ∧ Ev L xs ρ 166 893 [l0] st (n, I, Lm, up2 Rm a 39 (b + 1)) r := ev_ptR cm_166 dX11_init_890 rfl rfl (Or.inr ⟨rfl, rfl⟩)
theorem x166_893 : Ev L xs ρ 166 893 [some (.ref a)] st σ r ↔ Ev L xs ρ 166 894 [some (.ref a)] (.ref a :: st) σ r := ev_aload_n cm_166 dX11_init_893 rfl rfl
theorem x166_894 : Ev L xs ρ 166 894 [l0] st σ r ↔ Ev L xs ρ 166 895 [l0] (.int (3) :: st) σ r := ev_iconst cm_166 dX11_init_894 (by decide)
theorem x166_895 : Ev L xs ρ 166 895 [l0] (.int x :: st) (n, I, Lm, Rm) r ↔ ((n < NNN ∧ (shp n).1 = 2) ∧ (0 ≤ x.toInt ∧ x.toInt = (shp n).2)) ∧ Ev L xs ρ 166 897 [l0] (.ref n :: st) (n + 1, zr2 I n 0, zr2 Lm n 0, zr2 Rm n 0) r := ev_nwc cm_166 dX11_init_895
theorem x166_897 : Ev L xs ρ 166 897 [l0] (.ref a :: st) σ r ↔ Ev L xs ρ 166 898 [l0] (.ref a :: .ref a :: st) σ r := ev_nx (ev_ex cm_166 dX11_init_897 rfl rfl)
theorem x166_898 : Ev L xs ρ 166 898 [l0] st σ r ↔ Ev L xs ρ 166 899 [l0] (.int (0) :: st) σ r := ev_iconst cm_166 dX11_init_898 (by decide)
theorem x166_899 : Ev L xs ρ 166 899 [l0] st σ r ↔ Ev L xs ρ 166 901 [l0] (.int (109) :: st) σ r := ev_bipush cm_166 dX11_init_899 (by decide)
theorem x166_901 : Ev L xs ρ 166 901 [l0] (.int y :: .int x :: .ref a :: st) (n, I, Lm, Rm) r ↔ ((a < n ∧ (shp a).1 = 2) ∧ inb x (shp a).2) ∧ (0 ≤ y.toInt ∧ y.toInt < 65536) ∧ Ev L xs ρ 166 902 [l0] st (n, up2 I a (ixn x) y, Lm, Rm) r := ev_cast cm_166 dX11_init_901
theorem x166_902 : Ev L xs ρ 166 902 [l0] (.ref a :: st) σ r ↔ Ev L xs ρ 166 903 [l0] (.ref a :: .ref a :: st) σ r := ev_nx (ev_ex cm_166 dX11_init_902 rfl rfl)
theorem x166_903 : Ev L xs ρ 166 903 [l0] st σ r ↔ Ev L xs ρ 166 904 [l0] (.int (1) :: st) σ r := ev_iconst cm_166 dX11_init_903 (by decide)
theorem x166_904 : Ev L xs ρ 166 904 [l0] st σ r ↔ Ev L xs ρ 166 906 [l0] (.int (105) :: st) σ r := ev_bipush cm_166 dX11_init_904 (by decide)
theorem x166_906 : Ev L xs ρ 166 906 [l0] (.int y :: .int x :: .ref a :: st) (n, I, Lm, Rm) r ↔ ((a < n ∧ (shp a).1 = 2) ∧ inb x (shp a).2) ∧ (0 ≤ y.toInt ∧ y.toInt < 65536) ∧ Ev L xs ρ 166 907 [l0] st (n, up2 I a (ixn x) y, Lm, Rm) r := ev_cast cm_166 dX11_init_906
theorem x166_907 : Ev L xs ρ 166 907 [l0] (.ref a :: st) σ r ↔ Ev L xs ρ 166 908 [l0] (.ref a :: .ref a :: st) σ r := ev_nx (ev_ex cm_166 dX11_init_907 rfl rfl)
theorem x166_908 : Ev L xs ρ 166 908 [l0] st σ r ↔ Ev L xs ρ 166 909 [l0] (.int (2) :: st) σ r := ev_iconst cm_166 dX11_init_908 (by decide)
theorem x166_909 : Ev L xs ρ 166 909 [l0] st σ r ↔ Ev L xs ρ 166 911 [l0] (.int (110) :: st) σ r := ev_bipush cm_166 dX11_init_909 (by decide)
theorem x166_911 : Ev L xs ρ 166 911 [l0] (.int y :: .int x :: .ref a :: st) (n, I, Lm, Rm) r ↔ ((a < n ∧ (shp a).1 = 2) ∧ inb x (shp a).2) ∧ (0 ≤ y.toInt ∧ y.toInt < 65536) ∧ Ev L xs ρ 166 912 [l0] st (n, up2 I a (ixn x) y, Lm, Rm) r := ev_cast cm_166 dX11_init_911
theorem x166_912 : Ev L xs ρ 166 912 [l0] (.ref b :: .ref a :: st) (n, I, Lm, Rm) r ↔ (a < n ∧ shp a = (0, 11)) ∧ Ev L xs ρ 166 915 [l0] st (n, I, Lm, up2 Rm a 40 (b + 1)) r := ev_ptR cm_166 dX11_init_912 rfl rfl (Or.inr ⟨rfl, rfl⟩)
theorem x166_915 : Ev L xs ρ 166 915 [some (.ref a)] st σ r ↔ Ev L xs ρ 166 916 [some (.ref a)] (.ref a :: st) σ r := ev_aload_n cm_166 dX11_init_915 rfl rfl
theorem x166_916 : Ev L xs ρ 166 916 [l0] st σ r ↔ Ev L xs ρ 166 917 [l0] (.int (3) :: st) σ r := ev_iconst cm_166 dX11_init_916 (by decide)
theorem x166_917 : Ev L xs ρ 166 917 [l0] (.int x :: st) (n, I, Lm, Rm) r ↔ ((n < NNN ∧ (shp n).1 = 2) ∧ (0 ≤ x.toInt ∧ x.toInt = (shp n).2)) ∧ Ev L xs ρ 166 919 [l0] (.ref n :: st) (n + 1, zr2 I n 0, zr2 Lm n 0, zr2 Rm n 0) r := ev_nwc cm_166 dX11_init_917
theorem x166_919 : Ev L xs ρ 166 919 [l0] (.ref a :: st) σ r ↔ Ev L xs ρ 166 920 [l0] (.ref a :: .ref a :: st) σ r := ev_nx (ev_ex cm_166 dX11_init_919 rfl rfl)
theorem x166_920 : Ev L xs ρ 166 920 [l0] st σ r ↔ Ev L xs ρ 166 921 [l0] (.int (0) :: st) σ r := ev_iconst cm_166 dX11_init_920 (by decide)
theorem x166_921 : Ev L xs ρ 166 921 [l0] st σ r ↔ Ev L xs ρ 166 923 [l0] (.int (109) :: st) σ r := ev_bipush cm_166 dX11_init_921 (by decide)
theorem x166_923 : Ev L xs ρ 166 923 [l0] (.int y :: .int x :: .ref a :: st) (n, I, Lm, Rm) r ↔ ((a < n ∧ (shp a).1 = 2) ∧ inb x (shp a).2) ∧ (0 ≤ y.toInt ∧ y.toInt < 65536) ∧ Ev L xs ρ 166 924 [l0] st (n, up2 I a (ixn x) y, Lm, Rm) r := ev_cast cm_166 dX11_init_923
theorem x166_924 : Ev L xs ρ 166 924 [l0] (.ref a :: st) σ r ↔ Ev L xs ρ 166 925 [l0] (.ref a :: .ref a :: st) σ r := ev_nx (ev_ex cm_166 dX11_init_924 rfl rfl)
theorem x166_925 : Ev L xs ρ 166 925 [l0] st σ r ↔ Ev L xs ρ 166 926 [l0] (.int (1) :: st) σ r := ev_iconst cm_166 dX11_init_925 (by decide)
theorem x166_926 : Ev L xs ρ 166 926 [l0] st σ r ↔ Ev L xs ρ 166 928 [l0] (.int (97) :: st) σ r := ev_bipush cm_166 dX11_init_926 (by decide)
theorem x166_928 : Ev L xs ρ 166 928 [l0] (.int y :: .int x :: .ref a :: st) (n, I, Lm, Rm) r ↔ ((a < n ∧ (shp a).1 = 2) ∧ inb x (shp a).2) ∧ (0 ≤ y.toInt ∧ y.toInt < 65536) ∧ Ev L xs ρ 166 929 [l0] st (n, up2 I a (ixn x) y, Lm, Rm) r := ev_cast cm_166 dX11_init_928
theorem x166_929 : Ev L xs ρ 166 929 [l0] (.ref a :: st) σ r ↔ Ev L xs ρ 166 930 [l0] (.ref a :: .ref a :: st) σ r := ev_nx (ev_ex cm_166 dX11_init_929 rfl rfl)
theorem x166_930 : Ev L xs ρ 166 930 [l0] st σ r ↔ Ev L xs ρ 166 931 [l0] (.int (2) :: st) σ r := ev_iconst cm_166 dX11_init_930 (by decide)
theorem x166_931 : Ev L xs ρ 166 931 [l0] st σ r ↔ Ev L xs ρ 166 933 [l0] (.int (120) :: st) σ r := ev_bipush cm_166 dX11_init_931 (by decide)
theorem x166_933 : Ev L xs ρ 166 933 [l0] (.int y :: .int x :: .ref a :: st) (n, I, Lm, Rm) r ↔ ((a < n ∧ (shp a).1 = 2) ∧ inb x (shp a).2) ∧ (0 ≤ y.toInt ∧ y.toInt < 65536) ∧ Ev L xs ρ 166 934 [l0] st (n, up2 I a (ixn x) y, Lm, Rm) r := ev_cast cm_166 dX11_init_933
theorem x166_934 : Ev L xs ρ 166 934 [l0] (.ref b :: .ref a :: st) (n, I, Lm, Rm) r ↔ (a < n ∧ shp a = (0, 11)) ∧ Ev L xs ρ 166 937 [l0] st (n, I, Lm, up2 Rm a 41 (b + 1)) r := ev_ptR cm_166 dX11_init_934 rfl rfl (Or.inr ⟨rfl, rfl⟩)
theorem x166_937 : Ev L xs ρ 166 937 [some (.ref a)] st σ r ↔ Ev L xs ρ 166 938 [some (.ref a)] (.ref a :: st) σ r := ev_aload_n cm_166 dX11_init_937 rfl rfl
theorem x166_938 : Ev L xs ρ 166 938 [l0] st σ r ↔ Ev L xs ρ 166 940 [l0] (.int (72) :: st) σ r := ev_bipush cm_166 dX11_init_938 (by decide)
theorem x166_940 : Ev L xs ρ 166 940 [l0] (.int x :: st) (n, I, Lm, Rm) r ↔ ((n < NNN ∧ (shp n).1 = 3) ∧ (0 ≤ x.toInt ∧ x.toInt = (shp n).2)) ∧ Ev L xs ρ 166 942 [l0] (.ref n :: st) (n + 1, zr2 I n 0, zr2 Lm n 0, zr2 Rm n 0) r := ev_nwl cm_166 dX11_init_940
theorem x166_942 : Ev L xs ρ 166 942 [l0] (.ref b :: .ref a :: st) (n, I, Lm, Rm) r ↔ (a < n ∧ shp a = (0, 11)) ∧ Ev L xs ρ 166 945 [l0] st (n, I, Lm, up2 Rm a 43 (b + 1)) r := ev_ptR cm_166 dX11_init_942 rfl rfl (Or.inr ⟨rfl, rfl⟩)
theorem x166_945 : Ev L xs ρ 166 945 [some (.ref a)] st σ r ↔ Ev L xs ρ 166 946 [some (.ref a)] (.ref a :: st) σ r := ev_aload_n cm_166 dX11_init_945 rfl rfl
theorem x166_946 : Ev L xs ρ 166 946 [l0] st σ r ↔ Ev L xs ρ 166 948 [l0] (.int (6) :: st) σ r := ev_bipush cm_166 dX11_init_946 (by decide)
theorem x166_948 : Ev L xs ρ 166 948 [l0] (.int x :: st) (n, I, Lm, Rm) r ↔ ((n < NNN ∧ (shp n).1 = 1) ∧ (0 ≤ x.toInt ∧ x.toInt = (shp n).2)) ∧ Ev L xs ρ 166 950 [l0] (.ref n :: st) (n + 1, zr2 I n 0, zr2 Lm n 0, zr2 Rm n 0) r := ev_nwi cm_166 dX11_init_948
theorem x166_950 : Ev L xs ρ 166 950 [l0] (.ref b :: .ref a :: st) (n, I, Lm, Rm) r ↔ (a < n ∧ shp a = (0, 11)) ∧ Ev L xs ρ 166 953 [l0] st (n, I, Lm, up2 Rm a 44 (b + 1)) r := ev_ptR cm_166 dX11_init_950 rfl rfl (Or.inr ⟨rfl, rfl⟩)
theorem x166_953 : Ev L xs ρ 166 953 [some (.ref a)] st σ r ↔ Ev L xs ρ 166 954 [some (.ref a)] (.ref a :: st) σ r := ev_aload_n cm_166 dX11_init_953 rfl rfl
theorem x166_954 : Ev L xs ρ 166 954 [l0] st σ r ↔ Ev L xs ρ 166 956 [l0] (.int (60) :: st) σ r := ev_bipush cm_166 dX11_init_954 (by decide)
theorem x166_956 : Ev L xs ρ 166 956 [l0] (.int x :: st) (n, I, Lm, Rm) r ↔ ((n < NNN ∧ (shp n).1 = 1) ∧ (0 ≤ x.toInt ∧ x.toInt = (shp n).2)) ∧ Ev L xs ρ 166 958 [l0] (.ref n :: st) (n + 1, zr2 I n 0, zr2 Lm n 0, zr2 Rm n 0) r := ev_nwi cm_166 dX11_init_956
theorem x166_958 : Ev L xs ρ 166 958 [l0] (.ref b :: .ref a :: st) (n, I, Lm, Rm) r ↔ (a < n ∧ shp a = (0, 11)) ∧ Ev L xs ρ 166 961 [l0] st (n, I, Lm, up2 Rm a 45 (b + 1)) r := ev_ptR cm_166 dX11_init_958 rfl rfl (Or.inr ⟨rfl, rfl⟩)
theorem x166_961 : Ev L xs ρ 166 961 [some (.ref a)] st σ r ↔ Ev L xs ρ 166 962 [some (.ref a)] (.ref a :: st) σ r := ev_aload_n cm_166 dX11_init_961 rfl rfl
theorem x166_962 : Ev L xs ρ 166 962 [l0] st σ r ↔ Ev L xs ρ 166 964 [l0] (.int (32) :: st) σ r := ev_bipush cm_166 dX11_init_962 (by decide)
theorem x166_964 : Ev L xs ρ 166 964 [l0] (.int x :: st) (n, I, Lm, Rm) r ↔ ((n < NNN ∧ (shp n).1 = 1) ∧ (0 ≤ x.toInt ∧ x.toInt = (shp n).2)) ∧ Ev L xs ρ 166 966 [l0] (.ref n :: st) (n + 1, zr2 I n 0, zr2 Lm n 0, zr2 Rm n 0) r := ev_nwi cm_166 dX11_init_964
theorem x166_966 : Ev L xs ρ 166 966 [l0] (.ref b :: .ref a :: st) (n, I, Lm, Rm) r ↔ (a < n ∧ shp a = (0, 11)) ∧ Ev L xs ρ 166 969 [l0] st (n, I, Lm, up2 Rm a 46 (b + 1)) r := ev_ptR cm_166 dX11_init_966 rfl rfl (Or.inr ⟨rfl, rfl⟩)
theorem x166_969 : Ev L xs ρ 166 969 [some (.ref a)] st σ r ↔ Ev L xs ρ 166 970 [some (.ref a)] (.ref a :: st) σ r := ev_aload_n cm_166 dX11_init_969 rfl rfl
theorem x166_970 : Ev L xs ρ 166 970 [l0] st σ r ↔ Ev L xs ρ 166 972 [l0] (.int (12) :: st) σ r := ev_bipush cm_166 dX11_init_970 (by decide)
theorem x166_972 : Ev L xs ρ 166 972 [l0] (.int x :: st) (n, I, Lm, Rm) r ↔ ((n < NNN ∧ (shp n).1 = 1) ∧ (0 ≤ x.toInt ∧ x.toInt = (shp n).2)) ∧ Ev L xs ρ 166 974 [l0] (.ref n :: st) (n + 1, zr2 I n 0, zr2 Lm n 0, zr2 Rm n 0) r := ev_nwi cm_166 dX11_init_972
theorem x166_974 : Ev L xs ρ 166 974 [l0] (.ref b :: .ref a :: st) (n, I, Lm, Rm) r ↔ (a < n ∧ shp a = (0, 11)) ∧ Ev L xs ρ 166 977 [l0] st (n, I, Lm, up2 Rm a 47 (b + 1)) r := ev_ptR cm_166 dX11_init_974 rfl rfl (Or.inr ⟨rfl, rfl⟩)
theorem x166_977 : Ev L xs ρ 166 977 [some (.ref a)] st σ r ↔ Ev L xs ρ 166 978 [some (.ref a)] (.ref a :: st) σ r := ev_aload_n cm_166 dX11_init_977 rfl rfl
theorem x166_978 : Ev L xs ρ 166 978 [l0] st σ r ↔ Ev L xs ρ 166 980 [l0] (.int (12) :: st) σ r := ev_bipush cm_166 dX11_init_978 (by decide)
theorem x166_980 : Ev L xs ρ 166 980 [l0] (.int x :: st) (n, I, Lm, Rm) r ↔ ((n < NNN ∧ (shp n).1 = 1) ∧ (0 ≤ x.toInt ∧ x.toInt = (shp n).2)) ∧ Ev L xs ρ 166 982 [l0] (.ref n :: st) (n + 1, zr2 I n 0, zr2 Lm n 0, zr2 Rm n 0) r := ev_nwi cm_166 dX11_init_980
theorem x166_982 : Ev L xs ρ 166 982 [l0] (.ref b :: .ref a :: st) (n, I, Lm, Rm) r ↔ (a < n ∧ shp a = (0, 11)) ∧ Ev L xs ρ 166 985 [l0] st (n, I, Lm, up2 Rm a 48 (b + 1)) r := ev_ptR cm_166 dX11_init_982 rfl rfl (Or.inr ⟨rfl, rfl⟩)
theorem x166_985 : Ev L xs ρ 166 985 [some (.ref a)] st σ r ↔ Ev L xs ρ 166 986 [some (.ref a)] (.ref a :: st) σ r := ev_aload_n cm_166 dX11_init_985 rfl rfl
theorem x166_986 : Ev L xs ρ 166 986 [l0] st σ r ↔ Ev L xs ρ 166 988 [l0] (.int (12) :: st) σ r := ev_bipush cm_166 dX11_init_986 (by decide)
theorem x166_988 : Ev L xs ρ 166 988 [l0] (.int x :: st) (n, I, Lm, Rm) r ↔ ((n < NNN ∧ (shp n).1 = 1) ∧ (0 ≤ x.toInt ∧ x.toInt = (shp n).2)) ∧ Ev L xs ρ 166 990 [l0] (.ref n :: st) (n + 1, zr2 I n 0, zr2 Lm n 0, zr2 Rm n 0) r := ev_nwi cm_166 dX11_init_988
theorem x166_990 : Ev L xs ρ 166 990 [l0] (.ref b :: .ref a :: st) (n, I, Lm, Rm) r ↔ (a < n ∧ shp a = (0, 11)) ∧ Ev L xs ρ 166 993 [l0] st (n, I, Lm, up2 Rm a 49 (b + 1)) r := ev_ptR cm_166 dX11_init_990 rfl rfl (Or.inr ⟨rfl, rfl⟩)
theorem x166_993 : Ev L xs ρ 166 993 [some (.ref a)] st σ r ↔ Ev L xs ρ 166 994 [some (.ref a)] (.ref a :: st) σ r := ev_aload_n cm_166 dX11_init_993 rfl rfl
theorem x166_994 : Ev L xs ρ 166 994 [l0] st σ r ↔ Ev L xs ρ 166 996 [l0] (.int (6) :: st) σ r := ev_bipush cm_166 dX11_init_994 (by decide)
theorem x166_996 : Ev L xs ρ 166 996 [l0] (.int x :: st) (n, I, Lm, Rm) r ↔ ((n < NNN ∧ (shp n).1 = 1) ∧ (0 ≤ x.toInt ∧ x.toInt = (shp n).2)) ∧ Ev L xs ρ 166 998 [l0] (.ref n :: st) (n + 1, zr2 I n 0, zr2 Lm n 0, zr2 Rm n 0) r := ev_nwi cm_166 dX11_init_996
theorem x166_998 : Ev L xs ρ 166 998 [l0] (.ref b :: .ref a :: st) (n, I, Lm, Rm) r ↔ (a < n ∧ shp a = (0, 11)) ∧ Ev L xs ρ 166 1001 [l0] st (n, I, Lm, up2 Rm a 51 (b + 1)) r := ev_ptR cm_166 dX11_init_998 rfl rfl (Or.inr ⟨rfl, rfl⟩)
theorem x166_1001 : Ev L xs ρ 166 1001 [some (.ref a)] st σ r ↔ Ev L xs ρ 166 1002 [some (.ref a)] (.ref a :: st) σ r := ev_aload_n cm_166 dX11_init_1001 rfl rfl
theorem x166_1002 : Ev L xs ρ 166 1002 [l0] st σ r ↔ Ev L xs ρ 166 1004 [l0] (.int (40) :: st) σ r := ev_bipush cm_166 dX11_init_1002 (by decide)
theorem x166_1004 : Ev L xs ρ 166 1004 [l0] (.int x :: .ref a :: st) (n, I, Lm, Rm) r ↔ (a < n ∧ shp a = (0, 11)) ∧ Ev L xs ρ 166 1007 [l0] st (n, up2 I a 52 x, Lm, Rm) r := ev_ptI cm_166 dX11_init_1004 rfl rfl (Or.inl rfl)
theorem x166_1007 : Ev L xs ρ 166 1007 [some (.ref a)] st σ r ↔ Ev L xs ρ 166 1008 [some (.ref a)] (.ref a :: st) σ r := ev_aload_n cm_166 dX11_init_1007 rfl rfl
theorem x166_1008 : Ev L xs ρ 166 1008 [l0] st σ r ↔ Ev L xs ρ 166 1011 [l0] (.int (3200) :: st) σ r := ev_sipush cm_166 dX11_init_1008 (by decide)
theorem x166_1011 : Ev L xs ρ 166 1011 [l0] (.int x :: st) (n, I, Lm, Rm) r ↔ ((n < NNN ∧ (shp n).1 = 1) ∧ (0 ≤ x.toInt ∧ x.toInt = (shp n).2)) ∧ Ev L xs ρ 166 1013 [l0] (.ref n :: st) (n + 1, zr2 I n 0, zr2 Lm n 0, zr2 Rm n 0) r := ev_nwi cm_166 dX11_init_1011
theorem x166_1013 : Ev L xs ρ 166 1013 [l0] (.ref b :: .ref a :: st) (n, I, Lm, Rm) r ↔ (a < n ∧ shp a = (0, 11)) ∧ Ev L xs ρ 166 1016 [l0] st (n, I, Lm, up2 Rm a 55 (b + 1)) r := ev_ptR cm_166 dX11_init_1013 rfl rfl (Or.inr ⟨rfl, rfl⟩)
theorem x166_1016 : Ev L xs ρ 166 1016 [some (.ref a)] st σ r ↔ Ev L xs ρ 166 1017 [some (.ref a)] (.ref a :: st) σ r := ev_aload_n cm_166 dX11_init_1016 rfl rfl
theorem x166_1017 : Ev L xs ρ 166 1017 [l0] st σ r ↔ Ev L xs ρ 166 1020 [l0] (.int (1700) :: st) σ r := ev_sipush cm_166 dX11_init_1017 (by decide)
theorem x166_1020 : Ev L xs ρ 166 1020 [l0] (.int x :: st) (n, I, Lm, Rm) r ↔ ((n < NNN ∧ (shp n).1 = 1) ∧ (0 ≤ x.toInt ∧ x.toInt = (shp n).2)) ∧ Ev L xs ρ 166 1022 [l0] (.ref n :: st) (n + 1, zr2 I n 0, zr2 Lm n 0, zr2 Rm n 0) r := ev_nwi cm_166 dX11_init_1020
theorem x166_1022 : Ev L xs ρ 166 1022 [l0] (.ref b :: .ref a :: st) (n, I, Lm, Rm) r ↔ (a < n ∧ shp a = (0, 11)) ∧ Ev L xs ρ 166 1025 [l0] st (n, I, Lm, up2 Rm a 57 (b + 1)) r := ev_ptR cm_166 dX11_init_1022 rfl rfl (Or.inr ⟨rfl, rfl⟩)
theorem x166_1025 : Ev L xs ρ 166 1025 [some (.ref a)] st σ r ↔ Ev L xs ρ 166 1026 [some (.ref a)] (.ref a :: st) σ r := ev_aload_n cm_166 dX11_init_1025 rfl rfl
theorem x166_1026 : Ev L xs ρ 166 1026 [l0] st σ r ↔ Ev L xs ρ 166 1027 [l0] (.int (2) :: st) σ r := ev_iconst cm_166 dX11_init_1026 (by decide)
theorem x166_1027 : Ev L xs ρ 166 1027 [l0] (.int x :: st) (n, I, Lm, Rm) r ↔ ((n < NNN ∧ (shp n).1 = 1) ∧ (0 ≤ x.toInt ∧ x.toInt = (shp n).2)) ∧ Ev L xs ρ 166 1029 [l0] (.ref n :: st) (n + 1, zr2 I n 0, zr2 Lm n 0, zr2 Rm n 0) r := ev_nwi cm_166 dX11_init_1027
theorem x166_1029 : Ev L xs ρ 166 1029 [l0] (.ref b :: .ref a :: st) (n, I, Lm, Rm) r ↔ (a < n ∧ shp a = (0, 11)) ∧ Ev L xs ρ 166 1032 [l0] st (n, I, Lm, up2 Rm a 60 (b + 1)) r := ev_ptR cm_166 dX11_init_1029 rfl rfl (Or.inr ⟨rfl, rfl⟩)
theorem x166_1032 : Ev L xs ρ 166 1032 [some (.ref a)] st σ r ↔ Ev L xs ρ 166 1033 [some (.ref a)] (.ref a :: st) σ r := ev_aload_n cm_166 dX11_init_1032 rfl rfl
theorem x166_1033 : Ev L xs ρ 166 1033 [l0] st σ r ↔ Ev L xs ρ 166 1035 [l0] (.int (24) :: st) σ r := ev_bipush cm_166 dX11_init_1033 (by decide)
theorem x166_1035 : Ev L xs ρ 166 1035 [l0] (.int x :: st) (n, I, Lm, Rm) r ↔ ((n < NNN ∧ (shp n).1 = 1) ∧ (0 ≤ x.toInt ∧ x.toInt = (shp n).2)) ∧ Ev L xs ρ 166 1037 [l0] (.ref n :: st) (n + 1, zr2 I n 0, zr2 Lm n 0, zr2 Rm n 0) r := ev_nwi cm_166 dX11_init_1035
theorem x166_1037 : Ev L xs ρ 166 1037 [l0] (.ref b :: .ref a :: st) (n, I, Lm, Rm) r ↔ (a < n ∧ shp a = (0, 11)) ∧ Ev L xs ρ 166 1040 [l0] st (n, I, Lm, up2 Rm a 61 (b + 1)) r := ev_ptR cm_166 dX11_init_1037 rfl rfl (Or.inr ⟨rfl, rfl⟩)
theorem x166_1040 : Ev L xs ρ 166 1040 [some (.ref a)] st σ r ↔ Ev L xs ρ 166 1041 [some (.ref a)] (.ref a :: st) σ r := ev_aload_n cm_166 dX11_init_1040 rfl rfl
theorem x166_1041 : Ev L xs ρ 166 1041 [l0] st σ r ↔ Ev L xs ρ 166 1043 [l0] (.int (24) :: st) σ r := ev_bipush cm_166 dX11_init_1041 (by decide)
theorem x166_1043 : Ev L xs ρ 166 1043 [l0] (.int x :: st) (n, I, Lm, Rm) r ↔ ((n < NNN ∧ (shp n).1 = 1) ∧ (0 ≤ x.toInt ∧ x.toInt = (shp n).2)) ∧ Ev L xs ρ 166 1045 [l0] (.ref n :: st) (n + 1, zr2 I n 0, zr2 Lm n 0, zr2 Rm n 0) r := ev_nwi cm_166 dX11_init_1043
theorem x166_1045 : Ev L xs ρ 166 1045 [l0] (.ref b :: .ref a :: st) (n, I, Lm, Rm) r ↔ (a < n ∧ shp a = (0, 11)) ∧ Ev L xs ρ 166 1048 [l0] st (n, I, Lm, up2 Rm a 62 (b + 1)) r := ev_ptR cm_166 dX11_init_1045 rfl rfl (Or.inr ⟨rfl, rfl⟩)
theorem x166_1048 : Ev L xs ρ 166 1048 [some (.ref a)] st σ r ↔ Ev L xs ρ 166 1049 [some (.ref a)] (.ref a :: st) σ r := ev_aload_n cm_166 dX11_init_1048 rfl rfl
theorem x166_1049 : Ev L xs ρ 166 1049 [l0] st σ r ↔ Ev L xs ρ 166 1051 [l0] (.int (24) :: st) σ r := ev_bipush cm_166 dX11_init_1049 (by decide)
theorem x166_1051 : Ev L xs ρ 166 1051 [l0] (.int x :: st) (n, I, Lm, Rm) r ↔ ((n < NNN ∧ (shp n).1 = 1) ∧ (0 ≤ x.toInt ∧ x.toInt = (shp n).2)) ∧ Ev L xs ρ 166 1053 [l0] (.ref n :: st) (n + 1, zr2 I n 0, zr2 Lm n 0, zr2 Rm n 0) r := ev_nwi cm_166 dX11_init_1051
theorem x166_1053 : Ev L xs ρ 166 1053 [l0] (.ref b :: .ref a :: st) (n, I, Lm, Rm) r ↔ (a < n ∧ shp a = (0, 11)) ∧ Ev L xs ρ 166 1056 [l0] st (n, I, Lm, up2 Rm a 63 (b + 1)) r := ev_ptR cm_166 dX11_init_1053 rfl rfl (Or.inr ⟨rfl, rfl⟩)
theorem x166_1056 : Ev L xs ρ 166 1056 [some (.ref a)] st σ r ↔ Ev L xs ρ 166 1057 [some (.ref a)] (.ref a :: st) σ r := ev_aload_n cm_166 dX11_init_1056 rfl rfl
theorem x166_1057 : Ev L xs ρ 166 1057 [l0] st σ r ↔ Ev L xs ρ 166 1059 [l0] (.int (24) :: st) σ r := ev_bipush cm_166 dX11_init_1057 (by decide)
theorem x166_1059 : Ev L xs ρ 166 1059 [l0] (.int x :: st) (n, I, Lm, Rm) r ↔ ((n < NNN ∧ (shp n).1 = 1) ∧ (0 ≤ x.toInt ∧ x.toInt = (shp n).2)) ∧ Ev L xs ρ 166 1061 [l0] (.ref n :: st) (n + 1, zr2 I n 0, zr2 Lm n 0, zr2 Rm n 0) r := ev_nwi cm_166 dX11_init_1059
theorem x166_1061 : Ev L xs ρ 166 1061 [l0] (.ref b :: .ref a :: st) (n, I, Lm, Rm) r ↔ (a < n ∧ shp a = (0, 11)) ∧ Ev L xs ρ 166 1064 [l0] st (n, I, Lm, up2 Rm a 64 (b + 1)) r := ev_ptR cm_166 dX11_init_1061 rfl rfl (Or.inr ⟨rfl, rfl⟩)
theorem x166_1064 : Ev L xs ρ 166 1064 [some (.ref a)] st σ r ↔ Ev L xs ρ 166 1065 [some (.ref a)] (.ref a :: st) σ r := ev_aload_n cm_166 dX11_init_1064 rfl rfl
theorem x166_1065 : Ev L xs ρ 166 1065 [l0] st σ r ↔ Ev L xs ρ 166 1067 [l0] (.int (32) :: st) σ r := ev_bipush cm_166 dX11_init_1065 (by decide)
theorem x166_1067 : Ev L xs ρ 166 1067 [l0] (.int x :: st) (n, I, Lm, Rm) r ↔ ((n < NNN ∧ (shp n).1 = 1) ∧ (0 ≤ x.toInt ∧ x.toInt = (shp n).2)) ∧ Ev L xs ρ 166 1069 [l0] (.ref n :: st) (n + 1, zr2 I n 0, zr2 Lm n 0, zr2 Rm n 0) r := ev_nwi cm_166 dX11_init_1067
theorem x166_1069 : Ev L xs ρ 166 1069 [l0] (.ref b :: .ref a :: st) (n, I, Lm, Rm) r ↔ (a < n ∧ shp a = (0, 11)) ∧ Ev L xs ρ 166 1072 [l0] st (n, I, Lm, up2 Rm a 66 (b + 1)) r := ev_ptR cm_166 dX11_init_1069 rfl rfl (Or.inr ⟨rfl, rfl⟩)
theorem x166_1072 : Ev L xs ρ 166 1072 [some (.ref a)] st σ r ↔ Ev L xs ρ 166 1073 [some (.ref a)] (.ref a :: st) σ r := ev_aload_n cm_166 dX11_init_1072 rfl rfl
theorem x166_1073 : Ev L xs ρ 166 1073 [l0] st σ r ↔ Ev L xs ρ 166 1075 [l0] (.int (32) :: st) σ r := ev_bipush cm_166 dX11_init_1073 (by decide)
theorem x166_1075 : Ev L xs ρ 166 1075 [l0] (.int x :: st) (n, I, Lm, Rm) r ↔ ((n < NNN ∧ (shp n).1 = 1) ∧ (0 ≤ x.toInt ∧ x.toInt = (shp n).2)) ∧ Ev L xs ρ 166 1077 [l0] (.ref n :: st) (n + 1, zr2 I n 0, zr2 Lm n 0, zr2 Rm n 0) r := ev_nwi cm_166 dX11_init_1075
theorem x166_1077 : Ev L xs ρ 166 1077 [l0] (.ref b :: .ref a :: st) (n, I, Lm, Rm) r ↔ (a < n ∧ shp a = (0, 11)) ∧ Ev L xs ρ 166 1080 [l0] st (n, I, Lm, up2 Rm a 67 (b + 1)) r := ev_ptR cm_166 dX11_init_1077 rfl rfl (Or.inr ⟨rfl, rfl⟩)
theorem x166_1080 : Ev L xs ρ 166 1080 [some (.ref a)] st σ r ↔ Ev L xs ρ 166 1081 [some (.ref a)] (.ref a :: st) σ r := ev_aload_n cm_166 dX11_init_1080 rfl rfl
theorem x166_1081 : Ev L xs ρ 166 1081 [l0] st σ r ↔ Ev L xs ρ 166 1083 [l0] (.int (32) :: st) σ r := ev_bipush cm_166 dX11_init_1081 (by decide)
theorem x166_1083 : Ev L xs ρ 166 1083 [l0] (.int x :: st) (n, I, Lm, Rm) r ↔ ((n < NNN ∧ (shp n).1 = 1) ∧ (0 ≤ x.toInt ∧ x.toInt = (shp n).2)) ∧ Ev L xs ρ 166 1085 [l0] (.ref n :: st) (n + 1, zr2 I n 0, zr2 Lm n 0, zr2 Rm n 0) r := ev_nwi cm_166 dX11_init_1083
theorem x166_1085 : Ev L xs ρ 166 1085 [l0] (.ref b :: .ref a :: st) (n, I, Lm, Rm) r ↔ (a < n ∧ shp a = (0, 11)) ∧ Ev L xs ρ 166 1088 [l0] st (n, I, Lm, up2 Rm a 68 (b + 1)) r := ev_ptR cm_166 dX11_init_1085 rfl rfl (Or.inr ⟨rfl, rfl⟩)
theorem x166_1088 : Ev L xs ρ 166 1088 [some (.ref a)] st σ r ↔ Ev L xs ρ 166 1089 [some (.ref a)] (.ref a :: st) σ r := ev_aload_n cm_166 dX11_init_1088 rfl rfl
theorem x166_1089 : Ev L xs ρ 166 1089 [l0] st σ r ↔ Ev L xs ρ 166 1091 [l0] (.int (32) :: st) σ r := ev_bipush cm_166 dX11_init_1089 (by decide)
theorem x166_1091 : Ev L xs ρ 166 1091 [l0] (.int x :: st) (n, I, Lm, Rm) r ↔ ((n < NNN ∧ (shp n).1 = 1) ∧ (0 ≤ x.toInt ∧ x.toInt = (shp n).2)) ∧ Ev L xs ρ 166 1093 [l0] (.ref n :: st) (n + 1, zr2 I n 0, zr2 Lm n 0, zr2 Rm n 0) r := ev_nwi cm_166 dX11_init_1091
theorem x166_1093 : Ev L xs ρ 166 1093 [l0] (.ref b :: .ref a :: st) (n, I, Lm, Rm) r ↔ (a < n ∧ shp a = (0, 11)) ∧ Ev L xs ρ 166 1096 [l0] st (n, I, Lm, up2 Rm a 69 (b + 1)) r := ev_ptR cm_166 dX11_init_1093 rfl rfl (Or.inr ⟨rfl, rfl⟩)
theorem x166_1096 : Ev L xs ρ 166 1096 [some (.ref a)] st σ r ↔ Ev L xs ρ 166 1097 [some (.ref a)] (.ref a :: st) σ r := ev_aload_n cm_166 dX11_init_1096 rfl rfl
theorem x166_1097 : Ev L xs ρ 166 1097 [l0] st σ r ↔ Ev L xs ρ 166 1099 [l0] (.int (12) :: st) σ r := ev_bipush cm_166 dX11_init_1097 (by decide)
theorem x166_1099 : Ev L xs ρ 166 1099 [l0] (.int x :: st) (n, I, Lm, Rm) r ↔ ((n < NNN ∧ (shp n).1 = 1) ∧ (0 ≤ x.toInt ∧ x.toInt = (shp n).2)) ∧ Ev L xs ρ 166 1101 [l0] (.ref n :: st) (n + 1, zr2 I n 0, zr2 Lm n 0, zr2 Rm n 0) r := ev_nwi cm_166 dX11_init_1099
theorem x166_1101 : Ev L xs ρ 166 1101 [l0] (.ref b :: .ref a :: st) (n, I, Lm, Rm) r ↔ (a < n ∧ shp a = (0, 11)) ∧ Ev L xs ρ 166 1104 [l0] st (n, I, Lm, up2 Rm a 70 (b + 1)) r := ev_ptR cm_166 dX11_init_1101 rfl rfl (Or.inr ⟨rfl, rfl⟩)
theorem x166_1104 : Ev L xs ρ 166 1104 [some (.ref a)] st σ r ↔ Ev L xs ρ 166 1105 [some (.ref a)] (.ref a :: st) σ r := ev_aload_n cm_166 dX11_init_1104 rfl rfl
theorem x166_1105 : Ev L xs ρ 166 1105 [l0] st σ r ↔ Ev L xs ρ 166 1107 [l0] (.int (12) :: st) σ r := ev_bipush cm_166 dX11_init_1105 (by decide)
theorem x166_1107 : Ev L xs ρ 166 1107 [l0] (.int x :: st) (n, I, Lm, Rm) r ↔ ((n < NNN ∧ (shp n).1 = 1) ∧ (0 ≤ x.toInt ∧ x.toInt = (shp n).2)) ∧ Ev L xs ρ 166 1109 [l0] (.ref n :: st) (n + 1, zr2 I n 0, zr2 Lm n 0, zr2 Rm n 0) r := ev_nwi cm_166 dX11_init_1107
theorem x166_1109 : Ev L xs ρ 166 1109 [l0] (.ref b :: .ref a :: st) (n, I, Lm, Rm) r ↔ (a < n ∧ shp a = (0, 11)) ∧ Ev L xs ρ 166 1112 [l0] st (n, I, Lm, up2 Rm a 71 (b + 1)) r := ev_ptR cm_166 dX11_init_1109 rfl rfl (Or.inr ⟨rfl, rfl⟩)
theorem x166_1112 : Ev L xs ρ 166 1112 [some (.ref a)] st σ r ↔ Ev L xs ρ 166 1113 [some (.ref a)] (.ref a :: st) σ r := ev_aload_n cm_166 dX11_init_1112 rfl rfl
theorem x166_1113 : Ev L xs ρ 166 1113 [l0] st σ r ↔ Ev L xs ρ 166 1115 [l0] (.int (12) :: st) σ r := ev_bipush cm_166 dX11_init_1113 (by decide)
theorem x166_1115 : Ev L xs ρ 166 1115 [l0] (.int x :: st) (n, I, Lm, Rm) r ↔ ((n < NNN ∧ (shp n).1 = 1) ∧ (0 ≤ x.toInt ∧ x.toInt = (shp n).2)) ∧ Ev L xs ρ 166 1117 [l0] (.ref n :: st) (n + 1, zr2 I n 0, zr2 Lm n 0, zr2 Rm n 0) r := ev_nwi cm_166 dX11_init_1115
theorem x166_1117 : Ev L xs ρ 166 1117 [l0] (.ref b :: .ref a :: st) (n, I, Lm, Rm) r ↔ (a < n ∧ shp a = (0, 11)) ∧ Ev L xs ρ 166 1120 [l0] st (n, I, Lm, up2 Rm a 72 (b + 1)) r := ev_ptR cm_166 dX11_init_1117 rfl rfl (Or.inr ⟨rfl, rfl⟩)
theorem x166_1120 : Ev L xs ρ 166 1120 [some (.ref a)] st σ r ↔ Ev L xs ρ 166 1121 [some (.ref a)] (.ref a :: st) σ r := ev_aload_n cm_166 dX11_init_1120 rfl rfl
theorem x166_1121 : Ev L xs ρ 166 1121 [l0] st σ r ↔ Ev L xs ρ 166 1123 [l0] (.int (12) :: st) σ r := ev_bipush cm_166 dX11_init_1121 (by decide)
theorem x166_1123 : Ev L xs ρ 166 1123 [l0] (.int x :: st) (n, I, Lm, Rm) r ↔ ((n < NNN ∧ (shp n).1 = 1) ∧ (0 ≤ x.toInt ∧ x.toInt = (shp n).2)) ∧ Ev L xs ρ 166 1125 [l0] (.ref n :: st) (n + 1, zr2 I n 0, zr2 Lm n 0, zr2 Rm n 0) r := ev_nwi cm_166 dX11_init_1123
theorem x166_1125 : Ev L xs ρ 166 1125 [l0] (.ref b :: .ref a :: st) (n, I, Lm, Rm) r ↔ (a < n ∧ shp a = (0, 11)) ∧ Ev L xs ρ 166 1128 [l0] st (n, I, Lm, up2 Rm a 73 (b + 1)) r := ev_ptR cm_166 dX11_init_1125 rfl rfl (Or.inr ⟨rfl, rfl⟩)
theorem x166_1128 : Ev L xs ρ 166 1128 [some (.ref a)] st σ r ↔ Ev L xs ρ 166 1129 [some (.ref a)] (.ref a :: st) σ r := ev_aload_n cm_166 dX11_init_1128 rfl rfl
theorem x166_1129 : Ev L xs ρ 166 1129 [l0] st σ r ↔ Ev L xs ρ 166 1131 [l0] (.int (6) :: st) σ r := ev_bipush cm_166 dX11_init_1129 (by decide)
theorem x166_1131 : Ev L xs ρ 166 1131 [l0] (.int x :: st) (n, I, Lm, Rm) r ↔ ((n < NNN ∧ (shp n).1 = 1) ∧ (0 ≤ x.toInt ∧ x.toInt = (shp n).2)) ∧ Ev L xs ρ 166 1133 [l0] (.ref n :: st) (n + 1, zr2 I n 0, zr2 Lm n 0, zr2 Rm n 0) r := ev_nwi cm_166 dX11_init_1131
theorem x166_1133 : Ev L xs ρ 166 1133 [l0] (.ref b :: .ref a :: st) (n, I, Lm, Rm) r ↔ (a < n ∧ shp a = (0, 11)) ∧ Ev L xs ρ 166 1136 [l0] st (n, I, Lm, up2 Rm a 74 (b + 1)) r := ev_ptR cm_166 dX11_init_1133 rfl rfl (Or.inr ⟨rfl, rfl⟩)
theorem x166_1136 : Ev L xs ρ 166 1136 [some (.ref a)] st σ r ↔ Ev L xs ρ 166 1137 [some (.ref a)] (.ref a :: st) σ r := ev_aload_n cm_166 dX11_init_1136 rfl rfl
theorem x166_1137 : Ev L xs ρ 166 1137 [l0] st σ r ↔ Ev L xs ρ 166 1139 [l0] (.int (12) :: st) σ r := ev_bipush cm_166 dX11_init_1137 (by decide)
theorem x166_1139 : Ev L xs ρ 166 1139 [l0] (.int x :: st) (n, I, Lm, Rm) r ↔ ((n < NNN ∧ (shp n).1 = 1) ∧ (0 ≤ x.toInt ∧ x.toInt = (shp n).2)) ∧ Ev L xs ρ 166 1141 [l0] (.ref n :: st) (n + 1, zr2 I n 0, zr2 Lm n 0, zr2 Rm n 0) r := ev_nwi cm_166 dX11_init_1139
theorem x166_1141 : Ev L xs ρ 166 1141 [l0] (.ref b :: .ref a :: st) (n, I, Lm, Rm) r ↔ (a < n ∧ shp a = (0, 11)) ∧ Ev L xs ρ 166 1144 [l0] st (n, I, Lm, up2 Rm a 80 (b + 1)) r := ev_ptR cm_166 dX11_init_1141 rfl rfl (Or.inr ⟨rfl, rfl⟩)
theorem x166_1144 : Ev L xs ρ 166 1144 [some (.ref a)] st σ r ↔ Ev L xs ρ 166 1145 [some (.ref a)] (.ref a :: st) σ r := ev_aload_n cm_166 dX11_init_1144 rfl rfl
theorem x166_1145 : Ev L xs ρ 166 1145 [l0] st σ r ↔ Ev L xs ρ 166 1147 [l0] (.int (12) :: st) σ r := ev_bipush cm_166 dX11_init_1145 (by decide)
theorem x166_1147 : Ev L xs ρ 166 1147 [l0] (.int x :: st) (n, I, Lm, Rm) r ↔ ((n < NNN ∧ (shp n).1 = 1) ∧ (0 ≤ x.toInt ∧ x.toInt = (shp n).2)) ∧ Ev L xs ρ 166 1149 [l0] (.ref n :: st) (n + 1, zr2 I n 0, zr2 Lm n 0, zr2 Rm n 0) r := ev_nwi cm_166 dX11_init_1147
theorem x166_1149 : Ev L xs ρ 166 1149 [l0] (.ref b :: .ref a :: st) (n, I, Lm, Rm) r ↔ (a < n ∧ shp a = (0, 11)) ∧ Ev L xs ρ 166 1152 [l0] st (n, I, Lm, up2 Rm a 83 (b + 1)) r := ev_ptR cm_166 dX11_init_1149 rfl rfl (Or.inr ⟨rfl, rfl⟩)
theorem x166_1152 : Ev L xs ρ 166 1152 [some (.ref a)] st σ r ↔ Ev L xs ρ 166 1153 [some (.ref a)] (.ref a :: st) σ r := ev_aload_n cm_166 dX11_init_1152 rfl rfl
theorem x166_1153 : Ev L xs ρ 166 1153 [l0] st σ r ↔ Ev L xs ρ 166 1154 [l0] (.int (5) :: st) σ r := ev_iconst cm_166 dX11_init_1153 (by decide)
theorem x166_1154 : Ev L xs ρ 166 1154 [l0] (.int x :: st) (n, I, Lm, Rm) r ↔ ((n < NNN ∧ (shp n).1 = 1) ∧ (0 ≤ x.toInt ∧ x.toInt = (shp n).2)) ∧ Ev L xs ρ 166 1156 [l0] (.ref n :: st) (n + 1, zr2 I n 0, zr2 Lm n 0, zr2 Rm n 0) r := ev_nwi cm_166 dX11_init_1154
theorem x166_1156 : Ev L xs ρ 166 1156 [l0] (.ref b :: .ref a :: st) (n, I, Lm, Rm) r ↔ (a < n ∧ shp a = (0, 11)) ∧ Ev L xs ρ 166 1159 [l0] st (n, I, Lm, up2 Rm a 84 (b + 1)) r := ev_ptR cm_166 dX11_init_1156 rfl rfl (Or.inr ⟨rfl, rfl⟩)
theorem x166_1159 : Ev L xs ρ 166 1159 [some (.ref a)] st σ r ↔ Ev L xs ρ 166 1160 [some (.ref a)] (.ref a :: st) σ r := ev_aload_n cm_166 dX11_init_1159 rfl rfl
theorem x166_1160 : Ev L xs ρ 166 1160 [l0] st σ r ↔ Ev L xs ρ 166 1162 [l0] (.int (12) :: st) σ r := ev_bipush cm_166 dX11_init_1160 (by decide)
theorem x166_1162 : Ev L xs ρ 166 1162 [l0] (.int x :: st) (n, I, Lm, Rm) r ↔ ((n < NNN ∧ (shp n).1 = 1) ∧ (0 ≤ x.toInt ∧ x.toInt = (shp n).2)) ∧ Ev L xs ρ 166 1164 [l0] (.ref n :: st) (n + 1, zr2 I n 0, zr2 Lm n 0, zr2 Rm n 0) r := ev_nwi cm_166 dX11_init_1162
theorem x166_1164 : Ev L xs ρ 166 1164 [l0] (.ref b :: .ref a :: st) (n, I, Lm, Rm) r ↔ (a < n ∧ shp a = (0, 11)) ∧ Ev L xs ρ 166 1167 [l0] st (n, I, Lm, up2 Rm a 85 (b + 1)) r := ev_ptR cm_166 dX11_init_1164 rfl rfl (Or.inr ⟨rfl, rfl⟩)
theorem x166_1167 : Ev L xs ρ 166 1167 [some (.ref a)] st σ r ↔ Ev L xs ρ 166 1168 [some (.ref a)] (.ref a :: st) σ r := ev_aload_n cm_166 dX11_init_1167 rfl rfl
theorem x166_1168 : Ev L xs ρ 166 1168 [l0] st σ r ↔ Ev L xs ρ 166 1171 [l0] (.int (1700) :: st) σ r := ev_sipush cm_166 dX11_init_1168 (by decide)
theorem x166_1171 : Ev L xs ρ 166 1171 [l0] (.int x :: st) (n, I, Lm, Rm) r ↔ ((n < NNN ∧ (shp n).1 = 3) ∧ (0 ≤ x.toInt ∧ x.toInt = (shp n).2)) ∧ Ev L xs ρ 166 1173 [l0] (.ref n :: st) (n + 1, zr2 I n 0, zr2 Lm n 0, zr2 Rm n 0) r := ev_nwl cm_166 dX11_init_1171
theorem x166_1173 : Ev L xs ρ 166 1173 [l0] (.ref b :: .ref a :: st) (n, I, Lm, Rm) r ↔ (a < n ∧ shp a = (0, 11)) ∧ Ev L xs ρ 166 1176 [l0] st (n, I, Lm, up2 Rm a 86 (b + 1)) r := ev_ptR cm_166 dX11_init_1173 rfl rfl (Or.inr ⟨rfl, rfl⟩)
theorem x166_1176 : Ev L xs ρ 166 1176 [some (.ref a)] st σ r ↔ Ev L xs ρ 166 1177 [some (.ref a)] (.ref a :: st) σ r := ev_aload_n cm_166 dX11_init_1176 rfl rfl
theorem x166_1177 : Ev L xs ρ 166 1177 [l0] st σ r ↔ Ev L xs ρ 166 1178 [l0] (.long (1) :: st) σ r := ev_lconst cm_166 dX11_init_1177 (by decide)
theorem x166_1178 : Ev L xs ρ 166 1178 [l0] (.long u :: .ref a :: st) (n, I, Lm, Rm) r ↔ (a < n ∧ shp a = (0, 11)) ∧ Ev L xs ρ 166 1181 [l0] st (n, I, up2 Lm a 89 u, Rm) r := ev_ptL cm_166 dX11_init_1178 rfl rfl (Or.inl rfl)
theorem x166_1181 : Ev L xs ρ 166 1181 [some (.ref a)] st σ r ↔ Ev L xs ρ 166 1182 [some (.ref a)] (.ref a :: st) σ r := ev_aload_n cm_166 dX11_init_1181 rfl rfl
theorem x166_1182 : Ev L xs ρ 166 1182 [l0] st σ r ↔ Ev L xs ρ 166 1184 [l0] (.int (12) :: st) σ r := ev_bipush cm_166 dX11_init_1182 (by decide)
theorem x166_1184 : Ev L xs ρ 166 1184 [l0] (.int x :: st) (n, I, Lm, Rm) r ↔ ((n < NNN ∧ (shp n).1 = 1) ∧ (0 ≤ x.toInt ∧ x.toInt = (shp n).2)) ∧ Ev L xs ρ 166 1186 [l0] (.ref n :: st) (n + 1, zr2 I n 0, zr2 Lm n 0, zr2 Rm n 0) r := ev_nwi cm_166 dX11_init_1184
theorem x166_1186 : Ev L xs ρ 166 1186 [l0] (.ref b :: .ref a :: st) (n, I, Lm, Rm) r ↔ (a < n ∧ shp a = (0, 11)) ∧ Ev L xs ρ 166 1189 [l0] st (n, I, Lm, up2 Rm a 90 (b + 1)) r := ev_ptR cm_166 dX11_init_1186 rfl rfl (Or.inr ⟨rfl, rfl⟩)
theorem x166_1189 : Ev L xs ρ 166 1189 [some (.ref a)] st σ r ↔ Ev L xs ρ 166 1190 [some (.ref a)] (.ref a :: st) σ r := ev_aload_n cm_166 dX11_init_1189 rfl rfl
theorem x166_1190 : Ev L xs ρ 166 1190 [l0] st σ r ↔ Ev L xs ρ 166 1192 [l0] (.int (12) :: st) σ r := ev_bipush cm_166 dX11_init_1190 (by decide)
theorem x166_1192 : Ev L xs ρ 166 1192 [l0] (.int x :: st) (n, I, Lm, Rm) r ↔ ((n < NNN ∧ (shp n).1 = 1) ∧ (0 ≤ x.toInt ∧ x.toInt = (shp n).2)) ∧ Ev L xs ρ 166 1194 [l0] (.ref n :: st) (n + 1, zr2 I n 0, zr2 Lm n 0, zr2 Rm n 0) r := ev_nwi cm_166 dX11_init_1192
theorem x166_1194 : Ev L xs ρ 166 1194 [l0] (.ref b :: .ref a :: st) (n, I, Lm, Rm) r ↔ (a < n ∧ shp a = (0, 11)) ∧ Ev L xs ρ 166 1197 [l0] st (n, I, Lm, up2 Rm a 91 (b + 1)) r := ev_ptR cm_166 dX11_init_1194 rfl rfl (Or.inr ⟨rfl, rfl⟩)
theorem x166_1197 : Ev L xs ρ 166 1197 [some (.ref a)] st σ r ↔ Ev L xs ρ 166 1198 [some (.ref a)] (.ref a :: st) σ r := ev_aload_n cm_166 dX11_init_1197 rfl rfl
theorem x166_1198 : Ev L xs ρ 166 1198 [l0] st σ r ↔ Ev L xs ρ 166 1200 [l0] (.int (60) :: st) σ r := ev_bipush cm_166 dX11_init_1198 (by decide)
theorem x166_1200 : Ev L xs ρ 166 1200 [l0] (.int x :: st) (n, I, Lm, Rm) r ↔ ((n < NNN ∧ (shp n).1 = 1) ∧ (0 ≤ x.toInt ∧ x.toInt = (shp n).2)) ∧ Ev L xs ρ 166 1202 [l0] (.ref n :: st) (n + 1, zr2 I n 0, zr2 Lm n 0, zr2 Rm n 0) r := ev_nwi cm_166 dX11_init_1200
theorem x166_1202 : Ev L xs ρ 166 1202 [l0] (.ref b :: .ref a :: st) (n, I, Lm, Rm) r ↔ (a < n ∧ shp a = (0, 11)) ∧ Ev L xs ρ 166 1205 [l0] st (n, I, Lm, up2 Rm a 92 (b + 1)) r := ev_ptR cm_166 dX11_init_1202 rfl rfl (Or.inr ⟨rfl, rfl⟩)
theorem x166_1205 : Ev L xs ρ 166 1205 [l0] [] σ r ↔ r = (none, σ) := ev_retv cm_166 dX11_init_1205 rfl
end
