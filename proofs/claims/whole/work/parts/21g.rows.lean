section
variable {L : Nat} {xs : Nat → Int32} {ρ n : Nat} {st : List Value} {σ : Mm} {r : Option Value × Mm} {I : Nat → Nat → Int32} {Lm : Nat → Nat → Int64} {Rm : Nat → Nat → Nat}
variable {l0 l1 l2 l3 l4 l5 l6 l7 l8 : Option Value} {x y z x3 x4 x5 x6 x7 : Int32} {u v u1 u2 u3 u4 : Int64} {a b c a3 a4 : Nat}
theorem cm_167 : mcd 167 = cX11_isIn := rfl
theorem em_167 : Em L xs 167 [.long u, .long u1, .long u2] σ r ↔ Ev L xs 0 167 0 [some (.long u), none, some (.long u1), none, some (.long u2), none] [] σ r := Iff.rfl
theorem x167_0 : Ev L xs ρ 167 0 [some (.long u), none, l2, l3, l4, l5] st σ r ↔ Ev L xs ρ 167 1 [some (.long u), none, l2, l3, l4, l5] (.long u :: st) σ r := ev_lload_n cm_167 dX11_isIn_0 rfl rfl rfl
theorem x167_1 : Ev L xs ρ 167 1 [l0, l1, some (.long u), none, l4, l5] st σ r ↔ Ev L xs ρ 167 2 [l0, l1, some (.long u), none, l4, l5] (.long u :: st) σ r := ev_lload_n cm_167 dX11_isIn_1 rfl rfl rfl
theorem x167_2 : Ev L xs ρ 167 2 [l0, l1, l2, l3, l4, l5] (.long v :: .long u :: st) σ r ↔ Ev L xs ρ 167 3 [l0, l1, l2, l3, l4, l5] (.int (lg_cmp u v) :: st) σ r := ev_nx (ev_ex cm_167 dX11_isIn_2 rfl rfl)
theorem x167_3 : Ev L xs ρ 167 3 [l0, l1, l2, l3, l4, l5] (.int x :: st) σ r ↔ if x < 0 then Ev L xs ρ 167 17 [l0, l1, l2, l3, l4, l5] st σ r else Ev L xs ρ 167 6 [l0, l1, l2, l3, l4, l5] st σ r := ev_iflt cm_167 dX11_isIn_3 (by decide)
theorem x167_6 : Ev L xs ρ 167 6 [some (.long u), none, l2, l3, l4, l5] st σ r ↔ Ev L xs ρ 167 7 [some (.long u), none, l2, l3, l4, l5] (.long u :: st) σ r := ev_lload_n cm_167 dX11_isIn_6 rfl rfl rfl
theorem x167_7 : Ev L xs ρ 167 7 [l0, l1, l2, l3, some (.long u), none] st σ r ↔ Ev L xs ρ 167 9 [l0, l1, l2, l3, some (.long u), none] (.long u :: st) σ r := ev_lload cm_167 dX11_isIn_7 rfl rfl
theorem x167_9 : Ev L xs ρ 167 9 [l0, l1, l2, l3, l4, l5] (.long v :: .long u :: st) σ r ↔ Ev L xs ρ 167 10 [l0, l1, l2, l3, l4, l5] (.int (lg_cmp u v) :: st) σ r := ev_nx (ev_ex cm_167 dX11_isIn_9 rfl rfl)
theorem x167_10 : Ev L xs ρ 167 10 [l0, l1, l2, l3, l4, l5] (.int x :: st) σ r ↔ if 0 < x then Ev L xs ρ 167 17 [l0, l1, l2, l3, l4, l5] st σ r else Ev L xs ρ 167 13 [l0, l1, l2, l3, l4, l5] st σ r := ev_ifgt cm_167 dX11_isIn_10 (by decide)
theorem x167_13 : Ev L xs ρ 167 13 [l0, l1, l2, l3, l4, l5] st σ r ↔ Ev L xs ρ 167 14 [l0, l1, l2, l3, l4, l5] (.int (1) :: st) σ r := ev_iconst cm_167 dX11_isIn_13 (by decide)
theorem x167_14 : Ev L xs ρ 167 14 [l0, l1, l2, l3, l4, l5] st σ r ↔ Ev L xs ρ 167 18 [l0, l1, l2, l3, l4, l5] st σ r := ev_goto cm_167 dX11_isIn_14 (by decide)
theorem x167_17 : Ev L xs ρ 167 17 [l0, l1, l2, l3, l4, l5] st σ r ↔ Ev L xs ρ 167 18 [l0, l1, l2, l3, l4, l5] (.int (0) :: st) σ r := ev_iconst cm_167 dX11_isIn_17 (by decide)
theorem x167_18 : Ev L xs ρ 167 18 [l0, l1, l2, l3, l4, l5] [.int x] σ r ↔ (x = 0 ∨ x = 1) ∧ r = (some (.int x), σ) := ev_retz cm_167 dX11_isIn_18 rfl
theorem cm_168 : mcd 168 = cX11_feed := rfl
theorem em_168 : Em L xs 168 [.ref a, .int x, .int y, .int z, .int x3, .int x4] σ r ↔ Ev L xs 0 168 0 [some (.ref a), some (.int x), some (.int y), some (.int z), some (.int x3), some (.int x4), none, none] [] σ r := Iff.rfl
theorem x168_0 : Ev L xs ρ 168 0 [some (.ref a), l1, l2, l3, l4, l5, l6, l7] st σ r ↔ Ev L xs ρ 168 1 [some (.ref a), l1, l2, l3, l4, l5, l6, l7] (.ref a :: st) σ r := ev_aload_n cm_168 dX11_feed_0 rfl rfl
theorem x168_1 : Ev L xs ρ 168 1 [l0, l1, l2, l3, l4, l5, l6, l7] (.ref a :: st) (n, I, Lm, Rm) r ↔ (a < n ∧ shp a = (0, 11)) ∧ Ev L xs ρ 168 4 [l0, l1, l2, l3, l4, l5, l6, l7] (.int (I a 1) :: st) (n, I, Lm, Rm) r := ev_gtI cm_168 dX11_feed_1 rfl rfl
theorem x168_4 : Ev L xs ρ 168 4 [l0, l1, l2, l3, l4, l5, l6, l7] st σ r ↔ Ev L xs ρ 168 6 [l0, l1, l2, l3, l4, l5, l6, l7] (.int (20) :: st) σ r := ev_bipush cm_168 dX11_feed_4 (by decide)
theorem x168_6 : Ev L xs ρ 168 6 [l0, l1, l2, l3, l4, l5, l6, l7] (.int y :: .int x :: st) σ r ↔ Ev L xs ρ 168 7 [l0, l1, l2, l3, l4, l5, l6, l7] (.int (x + y) :: st) σ r := ev_nx (ev_ex cm_168 dX11_feed_6 rfl rfl)
theorem x168_7 : Ev L xs ρ 168 7 [l0, l1, l2, l3, l4, l5, l6, l7] st σ r ↔ Ev L xs ρ 168 10 [l0, l1, l2, l3, l4, l5, l6, l7] (.int (1600) :: st) σ r := ev_sipush cm_168 dX11_feed_7 (by decide)
theorem x168_10 : Ev L xs ρ 168 10 [l0, l1, l2, l3, l4, l5, l6, l7] (.int y :: .int x :: st) σ r ↔ if x ≤ y then Ev L xs ρ 168 15 [l0, l1, l2, l3, l4, l5, l6, l7] st σ r else Ev L xs ρ 168 13 [l0, l1, l2, l3, l4, l5, l6, l7] st σ r := ev_icle cm_168 dX11_feed_10 (by decide)
theorem x168_13 : Ev L xs ρ 168 13 [l0, l1, l2, l3, l4, l5, l6, l7] st σ r ↔ Ev L xs ρ 168 14 [l0, l1, l2, l3, l4, l5, l6, l7] (.int (-1) :: st) σ r := ev_iconst cm_168 dX11_feed_13 (by decide)
theorem x168_14 : Ev L xs ρ 168 14 [l0, l1, l2, l3, l4, l5, l6, l7] [.int x] σ r ↔ r = (some (.int x), σ) := ev_reti cm_168 dX11_feed_14 rfl
theorem x168_15 : Ev L xs ρ 168 15 [l0, l1, l2, l3, l4, l5, l6, l7] st σ r ↔ Ev L xs ρ 168 16 [l0, l1, l2, l3, l4, l5, l6, l7] (.int (0) :: st) σ r := ev_iconst cm_168 dX11_feed_15 (by decide)
theorem x168_16 : Ev L xs ρ 168 16 [l0, l1, l2, l3, l4, l5, l6, l7] (.int x :: st) σ r ↔ Ev L xs ρ 168 18 [l0, l1, l2, l3, l4, l5, some (.int x), l7] st σ r := ev_istore cm_168 dX11_feed_16 (Nat.le_of_ble_eq_true rfl)
theorem x168_18 : Ev L xs ρ 168 18 [l0, l1, l2, l3, l4, l5, some (.int x), l7] st σ r ↔ Ev L xs ρ 168 20 [l0, l1, l2, l3, l4, l5, some (.int x), l7] (.int x :: st) σ r := ev_iload cm_168 dX11_feed_18 rfl
theorem x168_20 : Ev L xs ρ 168 20 [l0, l1, l2, l3, l4, l5, l6, l7] st σ r ↔ Ev L xs ρ 168 22 [l0, l1, l2, l3, l4, l5, l6, l7] (.int (20) :: st) σ r := ev_bipush cm_168 dX11_feed_20 (by decide)
theorem x168_22 : Ev L xs ρ 168 22 [l0, l1, l2, l3, l4, l5, l6, l7] (.int y :: .int x :: st) σ r ↔ if y ≤ x then Ev L xs ρ 168 114 [l0, l1, l2, l3, l4, l5, l6, l7] st σ r else Ev L xs ρ 168 25 [l0, l1, l2, l3, l4, l5, l6, l7] st σ r := ev_icge cm_168 dX11_feed_22 (by decide)
theorem x168_25 : Ev L xs ρ 168 25 [l0, l1, l2, l3, l4, l5, some (.int x), l7] st σ r ↔ Ev L xs ρ 168 27 [l0, l1, l2, l3, l4, l5, some (.int x), l7] (.int x :: st) σ r := ev_iload cm_168 dX11_feed_25 rfl
theorem x168_27 : Ev L xs ρ 168 27 [l0, l1, l2, l3, l4, l5, l6, l7] st σ r ↔ Ev L xs ρ 168 28 [l0, l1, l2, l3, l4, l5, l6, l7] (.int (4) :: st) σ r := ev_iconst cm_168 dX11_feed_27 (by decide)
theorem x168_28 : Ev L xs ρ 168 28 [l0, l1, l2, l3, l4, l5, l6, l7] (.int y :: .int x :: st) σ r ↔ if y ≤ x then Ev L xs ρ 168 35 [l0, l1, l2, l3, l4, l5, l6, l7] st σ r else Ev L xs ρ 168 31 [l0, l1, l2, l3, l4, l5, l6, l7] st σ r := ev_icge cm_168 dX11_feed_28 (by decide)
theorem x168_31 : Ev L xs ρ 168 31 [l0, some (.int x), l2, l3, l4, l5, l6, l7] st σ r ↔ Ev L xs ρ 168 32 [l0, some (.int x), l2, l3, l4, l5, l6, l7] (.int x :: st) σ r := ev_iload_n cm_168 dX11_feed_31 rfl rfl
theorem x168_32 : Ev L xs ρ 168 32 [l0, l1, l2, l3, l4, l5, l6, l7] st σ r ↔ Ev L xs ρ 168 71 [l0, l1, l2, l3, l4, l5, l6, l7] st σ r := ev_goto cm_168 dX11_feed_32 (by decide)
theorem x168_35 : Ev L xs ρ 168 35 [l0, l1, l2, l3, l4, l5, some (.int x), l7] st σ r ↔ Ev L xs ρ 168 37 [l0, l1, l2, l3, l4, l5, some (.int x), l7] (.int x :: st) σ r := ev_iload cm_168 dX11_feed_35 rfl
theorem x168_37 : Ev L xs ρ 168 37 [l0, l1, l2, l3, l4, l5, l6, l7] st σ r ↔ Ev L xs ρ 168 39 [l0, l1, l2, l3, l4, l5, l6, l7] (.int (8) :: st) σ r := ev_bipush cm_168 dX11_feed_37 (by decide)
theorem x168_39 : Ev L xs ρ 168 39 [l0, l1, l2, l3, l4, l5, l6, l7] (.int y :: .int x :: st) σ r ↔ if y ≤ x then Ev L xs ρ 168 46 [l0, l1, l2, l3, l4, l5, l6, l7] st σ r else Ev L xs ρ 168 42 [l0, l1, l2, l3, l4, l5, l6, l7] st σ r := ev_icge cm_168 dX11_feed_39 (by decide)
theorem x168_42 : Ev L xs ρ 168 42 [l0, l1, some (.int x), l3, l4, l5, l6, l7] st σ r ↔ Ev L xs ρ 168 43 [l0, l1, some (.int x), l3, l4, l5, l6, l7] (.int x :: st) σ r := ev_iload_n cm_168 dX11_feed_42 rfl rfl
theorem x168_43 : Ev L xs ρ 168 43 [l0, l1, l2, l3, l4, l5, l6, l7] st σ r ↔ Ev L xs ρ 168 71 [l0, l1, l2, l3, l4, l5, l6, l7] st σ r := ev_goto cm_168 dX11_feed_43 (by decide)
theorem x168_46 : Ev L xs ρ 168 46 [l0, l1, l2, l3, l4, l5, some (.int x), l7] st σ r ↔ Ev L xs ρ 168 48 [l0, l1, l2, l3, l4, l5, some (.int x), l7] (.int x :: st) σ r := ev_iload cm_168 dX11_feed_46 rfl
theorem x168_48 : Ev L xs ρ 168 48 [l0, l1, l2, l3, l4, l5, l6, l7] st σ r ↔ Ev L xs ρ 168 50 [l0, l1, l2, l3, l4, l5, l6, l7] (.int (12) :: st) σ r := ev_bipush cm_168 dX11_feed_48 (by decide)
theorem x168_50 : Ev L xs ρ 168 50 [l0, l1, l2, l3, l4, l5, l6, l7] (.int y :: .int x :: st) σ r ↔ if y ≤ x then Ev L xs ρ 168 57 [l0, l1, l2, l3, l4, l5, l6, l7] st σ r else Ev L xs ρ 168 53 [l0, l1, l2, l3, l4, l5, l6, l7] st σ r := ev_icge cm_168 dX11_feed_50 (by decide)
theorem x168_53 : Ev L xs ρ 168 53 [l0, l1, l2, some (.int x), l4, l5, l6, l7] st σ r ↔ Ev L xs ρ 168 54 [l0, l1, l2, some (.int x), l4, l5, l6, l7] (.int x :: st) σ r := ev_iload_n cm_168 dX11_feed_53 rfl rfl
theorem x168_54 : Ev L xs ρ 168 54 [l0, l1, l2, l3, l4, l5, l6, l7] st σ r ↔ Ev L xs ρ 168 71 [l0, l1, l2, l3, l4, l5, l6, l7] st σ r := ev_goto cm_168 dX11_feed_54 (by decide)
theorem x168_57 : Ev L xs ρ 168 57 [l0, l1, l2, l3, l4, l5, some (.int x), l7] st σ r ↔ Ev L xs ρ 168 59 [l0, l1, l2, l3, l4, l5, some (.int x), l7] (.int x :: st) σ r := ev_iload cm_168 dX11_feed_57 rfl
theorem x168_59 : Ev L xs ρ 168 59 [l0, l1, l2, l3, l4, l5, l6, l7] st σ r ↔ Ev L xs ρ 168 61 [l0, l1, l2, l3, l4, l5, l6, l7] (.int (16) :: st) σ r := ev_bipush cm_168 dX11_feed_59 (by decide)
theorem x168_61 : Ev L xs ρ 168 61 [l0, l1, l2, l3, l4, l5, l6, l7] (.int y :: .int x :: st) σ r ↔ if y ≤ x then Ev L xs ρ 168 69 [l0, l1, l2, l3, l4, l5, l6, l7] st σ r else Ev L xs ρ 168 64 [l0, l1, l2, l3, l4, l5, l6, l7] st σ r := ev_icge cm_168 dX11_feed_61 (by decide)
theorem x168_64 : Ev L xs ρ 168 64 [l0, l1, l2, l3, some (.int x), l5, l6, l7] st σ r ↔ Ev L xs ρ 168 66 [l0, l1, l2, l3, some (.int x), l5, l6, l7] (.int x :: st) σ r := ev_iload cm_168 dX11_feed_64 rfl
theorem x168_66 : Ev L xs ρ 168 66 [l0, l1, l2, l3, l4, l5, l6, l7] st σ r ↔ Ev L xs ρ 168 71 [l0, l1, l2, l3, l4, l5, l6, l7] st σ r := ev_goto cm_168 dX11_feed_66 (by decide)
theorem x168_69 : Ev L xs ρ 168 69 [l0, l1, l2, l3, l4, some (.int x), l6, l7] st σ r ↔ Ev L xs ρ 168 71 [l0, l1, l2, l3, l4, some (.int x), l6, l7] (.int x :: st) σ r := ev_iload cm_168 dX11_feed_69 rfl
theorem x168_71 : Ev L xs ρ 168 71 [l0, l1, l2, l3, l4, l5, l6, l7] (.int x :: st) σ r ↔ Ev L xs ρ 168 73 [l0, l1, l2, l3, l4, l5, l6, some (.int x)] st σ r := ev_istore cm_168 dX11_feed_71 (Nat.le_of_ble_eq_true rfl)
theorem x168_73 : Ev L xs ρ 168 73 [some (.ref a), l1, l2, l3, l4, l5, l6, l7] st σ r ↔ Ev L xs ρ 168 74 [some (.ref a), l1, l2, l3, l4, l5, l6, l7] (.ref a :: st) σ r := ev_aload_n cm_168 dX11_feed_73 rfl rfl
theorem x168_74 : Ev L xs ρ 168 74 [l0, l1, l2, l3, l4, l5, l6, l7] (.ref a :: st) (n, I, Lm, Rm) r ↔ (a < n ∧ shp a = (0, 11)) ∧ Ev L xs ρ 168 77 [l0, l1, l2, l3, l4, l5, l6, l7] (rfv (Rm a 0) :: st) (n, I, Lm, Rm) r := ev_gtR cm_168 dX11_feed_74 rfl rfl
theorem x168_77 : Ev L xs ρ 168 77 [some (.ref a), l1, l2, l3, l4, l5, l6, l7] st σ r ↔ Ev L xs ρ 168 78 [some (.ref a), l1, l2, l3, l4, l5, l6, l7] (.ref a :: st) σ r := ev_aload_n cm_168 dX11_feed_77 rfl rfl
theorem x168_78 : Ev L xs ρ 168 78 [l0, l1, l2, l3, l4, l5, l6, l7] (.ref a :: st) (n, I, Lm, Rm) r ↔ (a < n ∧ shp a = (0, 11)) ∧ Ev L xs ρ 168 81 [l0, l1, l2, l3, l4, l5, l6, l7] (.int (I a 1) :: st) (n, I, Lm, Rm) r := ev_gtI cm_168 dX11_feed_78 rfl rfl
theorem x168_81 : Ev L xs ρ 168 81 [l0, l1, l2, l3, l4, l5, l6, some (.int x)] st σ r ↔ Ev L xs ρ 168 83 [l0, l1, l2, l3, l4, l5, l6, some (.int x)] (.int x :: st) σ r := ev_iload cm_168 dX11_feed_81 rfl
theorem x168_83 : Ev L xs ρ 168 83 [l0, l1, l2, l3, l4, l5, l6, l7] st σ r ↔ Ev L xs ρ 168 85 [l0, l1, l2, l3, l4, l5, l6, l7] (.int (8) :: st) σ r := ev_bipush cm_168 dX11_feed_83 (by decide)
theorem x168_85 : Ev L xs ρ 168 85 [l0, l1, l2, l3, l4, l5, l6, l7] st σ r ↔ Ev L xs ρ 168 86 [l0, l1, l2, l3, l4, l5, l6, l7] (.int (3) :: st) σ r := ev_iconst cm_168 dX11_feed_85 (by decide)
theorem x168_86 : Ev L xs ρ 168 86 [l0, l1, l2, l3, l4, l5, some (.int x), l7] st σ r ↔ Ev L xs ρ 168 88 [l0, l1, l2, l3, l4, l5, some (.int x), l7] (.int x :: st) σ r := ev_iload cm_168 dX11_feed_86 rfl
theorem x168_88 : Ev L xs ρ 168 88 [l0, l1, l2, l3, l4, l5, l6, l7] st σ r ↔ Ev L xs ρ 168 89 [l0, l1, l2, l3, l4, l5, l6, l7] (.int (4) :: st) σ r := ev_iconst cm_168 dX11_feed_88 (by decide)
theorem x168_89 : Ev L xs ρ 168 89 [l0, l1, l2, l3, l4, l5, l6, l7] (.int y :: .int x :: st) σ r ↔ ¬ y = 0 ∧ Ev L xs ρ 168 90 [l0, l1, l2, l3, l4, l5, l6, l7] (.int (x - x / y * y) :: st) σ r := ev_gn (ev_ex cm_168 dX11_feed_89 rfl rfl)
theorem x168_90 : Ev L xs ρ 168 90 [l0, l1, l2, l3, l4, l5, l6, l7] (.int y :: .int x :: st) σ r ↔ Ev L xs ρ 168 91 [l0, l1, l2, l3, l4, l5, l6, l7] (.int (x - y) :: st) σ r := ev_nx (ev_ex cm_168 dX11_feed_90 rfl rfl)
theorem x168_91 : Ev L xs ρ 168 91 [l0, l1, l2, l3, l4, l5, l6, l7] (.int y :: .int x :: st) σ r ↔ Ev L xs ρ 168 92 [l0, l1, l2, l3, l4, l5, l6, l7] (.int (x * y) :: st) σ r := ev_nx (ev_ex cm_168 dX11_feed_91 rfl rfl)
theorem x168_92 : Ev L xs ρ 168 92 [l0, l1, l2, l3, l4, l5, l6, l7] (.int y :: .int x :: st) σ r ↔ Ev L xs ρ 168 93 [l0, l1, l2, l3, l4, l5, l6, l7] (.int (x >>> (y &&& 31)) :: st) σ r := ev_nx (ev_ex cm_168 dX11_feed_92 rfl rfl)
theorem x168_93 : Ev L xs ρ 168 93 [l0, l1, l2, l3, l4, l5, l6, l7] st σ r ↔ Ev L xs ρ 168 96 [l0, l1, l2, l3, l4, l5, l6, l7] (.int (255) :: st) σ r := ev_sipush cm_168 dX11_feed_93 (by decide)
theorem x168_96 : Ev L xs ρ 168 96 [l0, l1, l2, l3, l4, l5, l6, l7] (.int y :: .int x :: st) σ r ↔ Ev L xs ρ 168 97 [l0, l1, l2, l3, l4, l5, l6, l7] (.int (x &&& y) :: st) σ r := ev_nx (ev_ex cm_168 dX11_feed_96 rfl rfl)
theorem x168_97 : Ev L xs ρ 168 97 [l0, l1, l2, l3, l4, l5, l6, l7] (.int y :: .int x :: .ref a :: st) (n, I, Lm, Rm) r ↔ ((a < n ∧ (shp a).1 = 1) ∧ inb x (shp a).2) ∧ Ev L xs ρ 168 98 [l0, l1, l2, l3, l4, l5, l6, l7] st (n, up2 I a (ixn x) y, Lm, Rm) r := ev_iast cm_168 dX11_feed_97
theorem x168_98 : Ev L xs ρ 168 98 [some (.ref a), l1, l2, l3, l4, l5, l6, l7] st σ r ↔ Ev L xs ρ 168 99 [some (.ref a), l1, l2, l3, l4, l5, l6, l7] (.ref a :: st) σ r := ev_aload_n cm_168 dX11_feed_98 rfl rfl
theorem x168_99 : Ev L xs ρ 168 99 [l0, l1, l2, l3, l4, l5, l6, l7] (.ref a :: st) σ r ↔ Ev L xs ρ 168 100 [l0, l1, l2, l3, l4, l5, l6, l7] (.ref a :: .ref a :: st) σ r := ev_nx (ev_ex cm_168 dX11_feed_99 rfl rfl)
theorem x168_100 : Ev L xs ρ 168 100 [l0, l1, l2, l3, l4, l5, l6, l7] (.ref a :: st) (n, I, Lm, Rm) r ↔ (a < n ∧ shp a = (0, 11)) ∧ Ev L xs ρ 168 103 [l0, l1, l2, l3, l4, l5, l6, l7] (.int (I a 1) :: st) (n, I, Lm, Rm) r := ev_gtI cm_168 dX11_feed_100 rfl rfl
theorem x168_103 : Ev L xs ρ 168 103 [l0, l1, l2, l3, l4, l5, l6, l7] st σ r ↔ Ev L xs ρ 168 104 [l0, l1, l2, l3, l4, l5, l6, l7] (.int (1) :: st) σ r := ev_iconst cm_168 dX11_feed_103 (by decide)
theorem x168_104 : Ev L xs ρ 168 104 [l0, l1, l2, l3, l4, l5, l6, l7] (.int y :: .int x :: st) σ r ↔ Ev L xs ρ 168 105 [l0, l1, l2, l3, l4, l5, l6, l7] (.int (x + y) :: st) σ r := ev_nx (ev_ex cm_168 dX11_feed_104 rfl rfl)
theorem x168_105 : Ev L xs ρ 168 105 [l0, l1, l2, l3, l4, l5, l6, l7] (.int x :: .ref a :: st) (n, I, Lm, Rm) r ↔ (a < n ∧ shp a = (0, 11)) ∧ Ev L xs ρ 168 108 [l0, l1, l2, l3, l4, l5, l6, l7] st (n, up2 I a 1 x, Lm, Rm) r := ev_ptI cm_168 dX11_feed_105 rfl rfl (Or.inl rfl)
theorem x168_108 : Ev L xs ρ 168 108 [l0, l1, l2, l3, l4, l5, some (.int x), l7] st σ r ↔ Ev L xs ρ 168 111 [l0, l1, l2, l3, l4, l5, some (.int (x + (1))), l7] st σ r := ev_iinc cm_168 dX11_feed_108 rfl (by decide)
theorem x168_111 : Ev L xs ρ 168 111 [l0, l1, l2, l3, l4, l5, l6, l7] st σ r ↔ Ev L xs ρ 168 18 [l0, l1, l2, l3, l4, l5, l6, l7] st σ r := ev_goto cm_168 dX11_feed_111 (by decide)
theorem x168_114 : Ev L xs ρ 168 114 [some (.ref a), l1, l2, l3, l4, l5, l6, l7] st σ r ↔ Ev L xs ρ 168 115 [some (.ref a), l1, l2, l3, l4, l5, l6, l7] (.ref a :: st) σ r := ev_aload_n cm_168 dX11_feed_114 rfl rfl
theorem x168_115 : Ev L xs ρ 168 115 [l0, l1, l2, l3, l4, l5, l6, l7] (.ref a :: st) (n, I, Lm, Rm) r ↔ (a < n ∧ shp a = (0, 11)) ∧ Ev L xs ρ 168 118 [l0, l1, l2, l3, l4, l5, l6, l7] (.int (I a 1) :: st) (n, I, Lm, Rm) r := ev_gtI cm_168 dX11_feed_115 rfl rfl
theorem x168_118 : Ev L xs ρ 168 118 [l0, l1, l2, l3, l4, l5, l6, l7] [.int x] σ r ↔ r = (some (.int x), σ) := ev_reti cm_168 dX11_feed_118 rfl
theorem cm_169 : mcd 169 = cX11_end := rfl
theorem em_169 : Em L xs 169 [.ref a, .int x] σ r ↔ Ev L xs 0 169 0 [some (.ref a), some (.int x)] [] σ r := Iff.rfl
theorem x169_0 : Ev L xs ρ 169 0 [l0, some (.int x)] st σ r ↔ Ev L xs ρ 169 1 [l0, some (.int x)] (.int x :: st) σ r := ev_iload_n cm_169 dX11_end_0 rfl rfl
theorem x169_1 : Ev L xs ρ 169 1 [l0, l1] (.int x :: st) σ r ↔ if x < 0 then Ev L xs ρ 169 12 [l0, l1] st σ r else Ev L xs ρ 169 4 [l0, l1] st σ r := ev_iflt cm_169 dX11_end_1 (by decide)
theorem x169_4 : Ev L xs ρ 169 4 [l0, some (.int x)] st σ r ↔ Ev L xs ρ 169 5 [l0, some (.int x)] (.int x :: st) σ r := ev_iload_n cm_169 dX11_end_4 rfl rfl
theorem x169_5 : Ev L xs ρ 169 5 [some (.ref a), l1] st σ r ↔ Ev L xs ρ 169 6 [some (.ref a), l1] (.ref a :: st) σ r := ev_aload_n cm_169 dX11_end_5 rfl rfl
theorem x169_6 : Ev L xs ρ 169 6 [l0, l1] (.ref a :: st) (n, I, Lm, Rm) r ↔ (a < n ∧ shp a = (0, 11)) ∧ Ev L xs ρ 169 9 [l0, l1] (.int (I a 1) :: st) (n, I, Lm, Rm) r := ev_gtI cm_169 dX11_end_6 rfl rfl
theorem x169_9 : Ev L xs ρ 169 9 [l0, l1] (.int y :: .int x :: st) σ r ↔ if x ≤ y then Ev L xs ρ 169 14 [l0, l1] st σ r else Ev L xs ρ 169 12 [l0, l1] st σ r := ev_icle cm_169 dX11_end_9 (by decide)
theorem x169_12 : Ev L xs ρ 169 12 [l0, l1] st σ r ↔ Ev L xs ρ 169 13 [l0, l1] (.int (0) :: st) σ r := ev_iconst cm_169 dX11_end_12 (by decide)
theorem x169_13 : Ev L xs ρ 169 13 [l0, l1] [.int x] σ r ↔ (x = 0 ∨ x = 1) ∧ r = (some (.int x), σ) := ev_retz cm_169 dX11_end_13 rfl
theorem x169_14 : Ev L xs ρ 169 14 [some (.ref a), l1] st σ r ↔ Ev L xs ρ 169 15 [some (.ref a), l1] (.ref a :: st) σ r := ev_aload_n cm_169 dX11_end_14 rfl rfl
theorem x169_15 : Ev L xs ρ 169 15 [l0, some (.int x)] st σ r ↔ Ev L xs ρ 169 16 [l0, some (.int x)] (.int x :: st) σ r := ev_iload_n cm_169 dX11_end_15 rfl rfl
theorem x169_16 : Ev L xs ρ 169 16 [l0, l1] (.int x :: .ref a :: st) (n, I, Lm, Rm) r ↔ (a < n ∧ shp a = (0, 11)) ∧ Ev L xs ρ 169 19 [l0, l1] st (n, up2 I a 1 x, Lm, Rm) r := ev_ptI cm_169 dX11_end_16 rfl rfl (Or.inl rfl)
theorem x169_19 : Ev L xs ρ 169 19 [l0, l1] st σ r ↔ Ev L xs ρ 169 20 [l0, l1] (.int (1) :: st) σ r := ev_iconst cm_169 dX11_end_19 (by decide)
theorem x169_20 : Ev L xs ρ 169 20 [l0, l1] [.int x] σ r ↔ (x = 0 ∨ x = 1) ∧ r = (some (.int x), σ) := ev_retz cm_169 dX11_end_20 rfl
theorem cm_170 : mcd 170 = cX11_fail := rfl
theorem em_170 : Em L xs 170 [.ref a, .int x, .int y] σ r ↔ Ev L xs 0 170 0 [some (.ref a), some (.int x), some (.int y)] [] σ r := Iff.rfl
theorem x170_0 : Ev L xs ρ 170 0 [some (.ref a), l1, l2] st σ r ↔ Ev L xs ρ 170 1 [some (.ref a), l1, l2] (.ref a :: st) σ r := ev_aload_n cm_170 dX11_fail_0 rfl rfl
theorem x170_1 : Ev L xs ρ 170 1 [l0, l1, l2] (.ref a :: st) (n, I, Lm, Rm) r ↔ (a < n ∧ shp a = (0, 11)) ∧ Ev L xs ρ 170 4 [l0, l1, l2] (.int (I a 5) :: st) (n, I, Lm, Rm) r := ev_gtI cm_170 dX11_fail_1 rfl rfl
theorem x170_4 : Ev L xs ρ 170 4 [l0, l1, l2] (.int x :: st) σ r ↔ if x = 0 then Ev L xs ρ 170 8 [l0, l1, l2] st σ r else Ev L xs ρ 170 7 [l0, l1, l2] st σ r := ev_ifeq cm_170 dX11_fail_4 (by decide)
theorem x170_7 : Ev L xs ρ 170 7 [l0, l1, l2] [] σ r ↔ r = (none, σ) := ev_retv cm_170 dX11_fail_7 rfl
theorem x170_8 : Ev L xs ρ 170 8 [some (.ref a), l1, l2] st σ r ↔ Ev L xs ρ 170 9 [some (.ref a), l1, l2] (.ref a :: st) σ r := ev_aload_n cm_170 dX11_fail_8 rfl rfl
theorem x170_9 : Ev L xs ρ 170 9 [l0, some (.int x), l2] st σ r ↔ Ev L xs ρ 170 10 [l0, some (.int x), l2] (.int x :: st) σ r := ev_iload_n cm_170 dX11_fail_9 rfl rfl
theorem x170_10 : Ev L xs ρ 170 10 [l0, l1, l2] (.int x :: .ref a :: st) (n, I, Lm, Rm) r ↔ (a < n ∧ shp a = (0, 11)) ∧ Ev L xs ρ 170 13 [l0, l1, l2] st (n, up2 I a 5 x, Lm, Rm) r := ev_ptI cm_170 dX11_fail_10 rfl rfl (Or.inl rfl)
theorem x170_13 : Ev L xs ρ 170 13 [some (.ref a), l1, l2] st σ r ↔ Ev L xs ρ 170 14 [some (.ref a), l1, l2] (.ref a :: st) σ r := ev_aload_n cm_170 dX11_fail_13 rfl rfl
theorem x170_14 : Ev L xs ρ 170 14 [l0, l1, some (.int x)] st σ r ↔ Ev L xs ρ 170 15 [l0, l1, some (.int x)] (.int x :: st) σ r := ev_iload_n cm_170 dX11_fail_14 rfl rfl
theorem x170_15 : Ev L xs ρ 170 15 [l0, l1, l2] (.int x :: .ref a :: st) (n, I, Lm, Rm) r ↔ (a < n ∧ shp a = (0, 11)) ∧ Ev L xs ρ 170 18 [l0, l1, l2] st (n, up2 I a 6 x, Lm, Rm) r := ev_ptI cm_170 dX11_fail_15 rfl rfl (Or.inl rfl)
theorem x170_18 : Ev L xs ρ 170 18 [l0, l1, l2] [] σ r ↔ r = (none, σ) := ev_retv cm_170 dX11_fail_18 rfl
theorem cm_171 : mcd 171 = cX11_isLetter := rfl
theorem em_171 : Em L xs 171 [.int x] σ r ↔ Ev L xs 0 171 0 [some (.int x)] [] σ r := Iff.rfl
theorem x171_0 : Ev L xs ρ 171 0 [some (.int x)] st σ r ↔ Ev L xs ρ 171 1 [some (.int x)] (.int x :: st) σ r := ev_iload_n cm_171 dX11_isLetter_0 rfl rfl
theorem x171_1 : Ev L xs ρ 171 1 [l0] st σ r ↔ Ev L xs ρ 171 3 [l0] (.int (97) :: st) σ r := ev_bipush cm_171 dX11_isLetter_1 (by decide)
theorem x171_3 : Ev L xs ρ 171 3 [l0] (.int y :: .int x :: st) σ r ↔ if x < y then Ev L xs ρ 171 16 [l0] st σ r else Ev L xs ρ 171 6 [l0] st σ r := ev_iclt cm_171 dX11_isLetter_3 (by decide)
theorem x171_6 : Ev L xs ρ 171 6 [some (.int x)] st σ r ↔ Ev L xs ρ 171 7 [some (.int x)] (.int x :: st) σ r := ev_iload_n cm_171 dX11_isLetter_6 rfl rfl
theorem x171_7 : Ev L xs ρ 171 7 [l0] st σ r ↔ Ev L xs ρ 171 9 [l0] (.int (122) :: st) σ r := ev_bipush cm_171 dX11_isLetter_7 (by decide)
theorem x171_9 : Ev L xs ρ 171 9 [l0] (.int y :: .int x :: st) σ r ↔ if y < x then Ev L xs ρ 171 16 [l0] st σ r else Ev L xs ρ 171 12 [l0] st σ r := ev_icgt cm_171 dX11_isLetter_9 (by decide)
theorem x171_12 : Ev L xs ρ 171 12 [l0] st σ r ↔ Ev L xs ρ 171 13 [l0] (.int (1) :: st) σ r := ev_iconst cm_171 dX11_isLetter_12 (by decide)
theorem x171_13 : Ev L xs ρ 171 13 [l0] st σ r ↔ Ev L xs ρ 171 17 [l0] st σ r := ev_goto cm_171 dX11_isLetter_13 (by decide)
theorem x171_16 : Ev L xs ρ 171 16 [l0] st σ r ↔ Ev L xs ρ 171 17 [l0] (.int (0) :: st) σ r := ev_iconst cm_171 dX11_isLetter_16 (by decide)
theorem x171_17 : Ev L xs ρ 171 17 [l0] [.int x] σ r ↔ (x = 0 ∨ x = 1) ∧ r = (some (.int x), σ) := ev_retz cm_171 dX11_isLetter_17 rfl
theorem cm_172 : mcd 172 = cX11_isDigit := rfl
theorem em_172 : Em L xs 172 [.int x] σ r ↔ Ev L xs 0 172 0 [some (.int x)] [] σ r := Iff.rfl
theorem x172_0 : Ev L xs ρ 172 0 [some (.int x)] st σ r ↔ Ev L xs ρ 172 1 [some (.int x)] (.int x :: st) σ r := ev_iload_n cm_172 dX11_isDigit_0 rfl rfl
theorem x172_1 : Ev L xs ρ 172 1 [l0] st σ r ↔ Ev L xs ρ 172 3 [l0] (.int (48) :: st) σ r := ev_bipush cm_172 dX11_isDigit_1 (by decide)
theorem x172_3 : Ev L xs ρ 172 3 [l0] (.int y :: .int x :: st) σ r ↔ if x < y then Ev L xs ρ 172 16 [l0] st σ r else Ev L xs ρ 172 6 [l0] st σ r := ev_iclt cm_172 dX11_isDigit_3 (by decide)
theorem x172_6 : Ev L xs ρ 172 6 [some (.int x)] st σ r ↔ Ev L xs ρ 172 7 [some (.int x)] (.int x :: st) σ r := ev_iload_n cm_172 dX11_isDigit_6 rfl rfl
theorem x172_7 : Ev L xs ρ 172 7 [l0] st σ r ↔ Ev L xs ρ 172 9 [l0] (.int (57) :: st) σ r := ev_bipush cm_172 dX11_isDigit_7 (by decide)
theorem x172_9 : Ev L xs ρ 172 9 [l0] (.int y :: .int x :: st) σ r ↔ if y < x then Ev L xs ρ 172 16 [l0] st σ r else Ev L xs ρ 172 12 [l0] st σ r := ev_icgt cm_172 dX11_isDigit_9 (by decide)
theorem x172_12 : Ev L xs ρ 172 12 [l0] st σ r ↔ Ev L xs ρ 172 13 [l0] (.int (1) :: st) σ r := ev_iconst cm_172 dX11_isDigit_12 (by decide)
theorem x172_13 : Ev L xs ρ 172 13 [l0] st σ r ↔ Ev L xs ρ 172 17 [l0] st σ r := ev_goto cm_172 dX11_isDigit_13 (by decide)
theorem x172_16 : Ev L xs ρ 172 16 [l0] st σ r ↔ Ev L xs ρ 172 17 [l0] (.int (0) :: st) σ r := ev_iconst cm_172 dX11_isDigit_16 (by decide)
theorem x172_17 : Ev L xs ρ 172 17 [l0] [.int x] σ r ↔ (x = 0 ∨ x = 1) ∧ r = (some (.int x), σ) := ev_retz cm_172 dX11_isDigit_17 rfl
theorem cm_173 : mcd 173 = cX11_look := rfl
theorem em_173 : Em L xs 173 [.ref a] σ r ↔ Ev L xs 0 173 0 [some (.ref a)] [] σ r := Iff.rfl
theorem x173_0 : Ev L xs ρ 173 0 [some (.ref a)] st σ r ↔ Ev L xs ρ 173 1 [some (.ref a)] (.ref a :: st) σ r := ev_aload_n cm_173 dX11_look_0 rfl rfl
theorem x173_1 : Ev L xs ρ 173 1 [l0] (.ref a :: st) (n, I, Lm, Rm) r ↔ (a < n ∧ shp a = (0, 11)) ∧ Ev L xs ρ 173 4 [l0] (.int (I a 2) :: st) (n, I, Lm, Rm) r := ev_gtI cm_173 dX11_look_1 rfl rfl
theorem x173_4 : Ev L xs ρ 173 4 [some (.ref a)] st σ r ↔ Ev L xs ρ 173 5 [some (.ref a)] (.ref a :: st) σ r := ev_aload_n cm_173 dX11_look_4 rfl rfl
theorem x173_5 : Ev L xs ρ 173 5 [l0] (.ref a :: st) (n, I, Lm, Rm) r ↔ (a < n ∧ shp a = (0, 11)) ∧ Ev L xs ρ 173 8 [l0] (.int (I a 3) :: st) (n, I, Lm, Rm) r := ev_gtI cm_173 dX11_look_5 rfl rfl
theorem x173_8 : Ev L xs ρ 173 8 [l0] (.int y :: .int x :: st) σ r ↔ if y ≤ x then Ev L xs ρ 173 52 [l0] st σ r else Ev L xs ρ 173 11 [l0] st σ r := ev_icge cm_173 dX11_look_8 (by decide)
theorem x173_11 : Ev L xs ρ 173 11 [some (.ref a)] st σ r ↔ Ev L xs ρ 173 12 [some (.ref a)] (.ref a :: st) σ r := ev_aload_n cm_173 dX11_look_11 rfl rfl
theorem x173_12 : Ev L xs ρ 173 12 [l0] (.ref a :: st) (n, I, Lm, Rm) r ↔ (a < n ∧ shp a = (0, 11)) ∧ Ev L xs ρ 173 15 [l0] (rfv (Rm a 0) :: st) (n, I, Lm, Rm) r := ev_gtR cm_173 dX11_look_12 rfl rfl
theorem x173_15 : Ev L xs ρ 173 15 [some (.ref a)] st σ r ↔ Ev L xs ρ 173 16 [some (.ref a)] (.ref a :: st) σ r := ev_aload_n cm_173 dX11_look_15 rfl rfl
theorem x173_16 : Ev L xs ρ 173 16 [l0] (.ref a :: st) (n, I, Lm, Rm) r ↔ (a < n ∧ shp a = (0, 11)) ∧ Ev L xs ρ 173 19 [l0] (.int (I a 2) :: st) (n, I, Lm, Rm) r := ev_gtI cm_173 dX11_look_16 rfl rfl
theorem x173_19 : Ev L xs ρ 173 19 [l0] (.int x :: .ref a :: st) (n, I, Lm, Rm) r ↔ ((a < n ∧ (shp a).1 = 1) ∧ inb x (shp a).2) ∧ Ev L xs ρ 173 20 [l0] (.int (I a (ixn x)) :: st) (n, I, Lm, Rm) r := ev_iald cm_173 dX11_look_19 (by decide)
theorem x173_20 : Ev L xs ρ 173 20 [l0] st σ r ↔ Ev L xs ρ 173 22 [l0] (.int (10) :: st) σ r := ev_bipush cm_173 dX11_look_20 (by decide)
theorem x173_22 : Ev L xs ρ 173 22 [l0] (.int y :: .int x :: st) σ r ↔ if x = y then Ev L xs ρ 173 39 [l0] st σ r else Ev L xs ρ 173 25 [l0] st σ r := ev_iceq cm_173 dX11_look_22 (by decide)
theorem x173_25 : Ev L xs ρ 173 25 [some (.ref a)] st σ r ↔ Ev L xs ρ 173 26 [some (.ref a)] (.ref a :: st) σ r := ev_aload_n cm_173 dX11_look_25 rfl rfl
theorem x173_26 : Ev L xs ρ 173 26 [l0] (.ref a :: st) (n, I, Lm, Rm) r ↔ (a < n ∧ shp a = (0, 11)) ∧ Ev L xs ρ 173 29 [l0] (rfv (Rm a 0) :: st) (n, I, Lm, Rm) r := ev_gtR cm_173 dX11_look_26 rfl rfl
theorem x173_29 : Ev L xs ρ 173 29 [some (.ref a)] st σ r ↔ Ev L xs ρ 173 30 [some (.ref a)] (.ref a :: st) σ r := ev_aload_n cm_173 dX11_look_29 rfl rfl
theorem x173_30 : Ev L xs ρ 173 30 [l0] (.ref a :: st) (n, I, Lm, Rm) r ↔ (a < n ∧ shp a = (0, 11)) ∧ Ev L xs ρ 173 33 [l0] (.int (I a 2) :: st) (n, I, Lm, Rm) r := ev_gtI cm_173 dX11_look_30 rfl rfl
theorem x173_33 : Ev L xs ρ 173 33 [l0] (.int x :: .ref a :: st) (n, I, Lm, Rm) r ↔ ((a < n ∧ (shp a).1 = 1) ∧ inb x (shp a).2) ∧ Ev L xs ρ 173 34 [l0] (.int (I a (ixn x)) :: st) (n, I, Lm, Rm) r := ev_iald cm_173 dX11_look_33 (by decide)
theorem x173_34 : Ev L xs ρ 173 34 [l0] st σ r ↔ Ev L xs ρ 173 36 [l0] (.int (32) :: st) σ r := ev_bipush cm_173 dX11_look_34 (by decide)
theorem x173_36 : Ev L xs ρ 173 36 [l0] (.int y :: .int x :: st) σ r ↔ if x = y then Ev L xs ρ 173 39 [l0] st σ r else Ev L xs ρ 173 52 [l0] st σ r := ev_icne cm_173 dX11_look_36 (by decide)
theorem x173_39 : Ev L xs ρ 173 39 [some (.ref a)] st σ r ↔ Ev L xs ρ 173 40 [some (.ref a)] (.ref a :: st) σ r := ev_aload_n cm_173 dX11_look_39 rfl rfl
theorem x173_40 : Ev L xs ρ 173 40 [l0] (.ref a :: st) σ r ↔ Ev L xs ρ 173 41 [l0] (.ref a :: .ref a :: st) σ r := ev_nx (ev_ex cm_173 dX11_look_40 rfl rfl)
theorem x173_41 : Ev L xs ρ 173 41 [l0] (.ref a :: st) (n, I, Lm, Rm) r ↔ (a < n ∧ shp a = (0, 11)) ∧ Ev L xs ρ 173 44 [l0] (.int (I a 2) :: st) (n, I, Lm, Rm) r := ev_gtI cm_173 dX11_look_41 rfl rfl
theorem x173_44 : Ev L xs ρ 173 44 [l0] st σ r ↔ Ev L xs ρ 173 45 [l0] (.int (1) :: st) σ r := ev_iconst cm_173 dX11_look_44 (by decide)
theorem x173_45 : Ev L xs ρ 173 45 [l0] (.int y :: .int x :: st) σ r ↔ Ev L xs ρ 173 46 [l0] (.int (x + y) :: st) σ r := ev_nx (ev_ex cm_173 dX11_look_45 rfl rfl)
theorem x173_46 : Ev L xs ρ 173 46 [l0] (.int x :: .ref a :: st) (n, I, Lm, Rm) r ↔ (a < n ∧ shp a = (0, 11)) ∧ Ev L xs ρ 173 49 [l0] st (n, up2 I a 2 x, Lm, Rm) r := ev_ptI cm_173 dX11_look_46 rfl rfl (Or.inl rfl)
theorem x173_49 : Ev L xs ρ 173 49 [l0] st σ r ↔ Ev L xs ρ 173 0 [l0] st σ r := ev_goto cm_173 dX11_look_49 (by decide)
theorem x173_52 : Ev L xs ρ 173 52 [some (.ref a)] st σ r ↔ Ev L xs ρ 173 53 [some (.ref a)] (.ref a :: st) σ r := ev_aload_n cm_173 dX11_look_52 rfl rfl
theorem x173_53 : Ev L xs ρ 173 53 [l0] (.ref a :: st) (n, I, Lm, Rm) r ↔ (a < n ∧ shp a = (0, 11)) ∧ Ev L xs ρ 173 56 [l0] (.int (I a 2) :: st) (n, I, Lm, Rm) r := ev_gtI cm_173 dX11_look_53 rfl rfl
theorem x173_56 : Ev L xs ρ 173 56 [some (.ref a)] st σ r ↔ Ev L xs ρ 173 57 [some (.ref a)] (.ref a :: st) σ r := ev_aload_n cm_173 dX11_look_56 rfl rfl
theorem x173_57 : Ev L xs ρ 173 57 [l0] (.ref a :: st) (n, I, Lm, Rm) r ↔ (a < n ∧ shp a = (0, 11)) ∧ Ev L xs ρ 173 60 [l0] (.int (I a 3) :: st) (n, I, Lm, Rm) r := ev_gtI cm_173 dX11_look_57 rfl rfl
theorem x173_60 : Ev L xs ρ 173 60 [l0] (.int y :: .int x :: st) σ r ↔ if y ≤ x then Ev L xs ρ 173 75 [l0] st σ r else Ev L xs ρ 173 63 [l0] st σ r := ev_icge cm_173 dX11_look_60 (by decide)
theorem x173_63 : Ev L xs ρ 173 63 [some (.ref a)] st σ r ↔ Ev L xs ρ 173 64 [some (.ref a)] (.ref a :: st) σ r := ev_aload_n cm_173 dX11_look_63 rfl rfl
theorem x173_64 : Ev L xs ρ 173 64 [l0] (.ref a :: st) (n, I, Lm, Rm) r ↔ (a < n ∧ shp a = (0, 11)) ∧ Ev L xs ρ 173 67 [l0] (rfv (Rm a 0) :: st) (n, I, Lm, Rm) r := ev_gtR cm_173 dX11_look_64 rfl rfl
theorem x173_67 : Ev L xs ρ 173 67 [some (.ref a)] st σ r ↔ Ev L xs ρ 173 68 [some (.ref a)] (.ref a :: st) σ r := ev_aload_n cm_173 dX11_look_67 rfl rfl
theorem x173_68 : Ev L xs ρ 173 68 [l0] (.ref a :: st) (n, I, Lm, Rm) r ↔ (a < n ∧ shp a = (0, 11)) ∧ Ev L xs ρ 173 71 [l0] (.int (I a 2) :: st) (n, I, Lm, Rm) r := ev_gtI cm_173 dX11_look_68 rfl rfl
theorem x173_71 : Ev L xs ρ 173 71 [l0] (.int x :: .ref a :: st) (n, I, Lm, Rm) r ↔ ((a < n ∧ (shp a).1 = 1) ∧ inb x (shp a).2) ∧ Ev L xs ρ 173 72 [l0] (.int (I a (ixn x)) :: st) (n, I, Lm, Rm) r := ev_iald cm_173 dX11_look_71 (by decide)
theorem x173_72 : Ev L xs ρ 173 72 [l0] st σ r ↔ Ev L xs ρ 173 76 [l0] st σ r := ev_goto cm_173 dX11_look_72 (by decide)
theorem x173_75 : Ev L xs ρ 173 75 [l0] st σ r ↔ Ev L xs ρ 173 76 [l0] (.int (-1) :: st) σ r := ev_iconst cm_173 dX11_look_75 (by decide)
theorem x173_76 : Ev L xs ρ 173 76 [l0] [.int x] σ r ↔ r = (some (.int x), σ) := ev_reti cm_173 dX11_look_76 rfl
theorem cm_174 : mcd 174 = cX11_isHere := rfl
theorem em_174 : Em L xs 174 [.ref a, .ref b] σ r ↔ Ev L xs 1 174 0 [some (.ref a), some (.ref b), none, none] [] σ r := Iff.rfl
theorem x174_0 : Ev L xs ρ 174 0 [some (.ref a), l1, l2, l3] st σ r ↔ Ev L xs ρ 174 1 [some (.ref a), l1, l2, l3] (.ref a :: st) σ r := ev_aload_n cm_174 dX11_isHere_0 rfl rfl
theorem x174_1 : Ev L xs ρ 174 1 [l0, l1, l2, l3] (.ref a :: st) (n, I, Lm, Rm) r ↔ (a < n ∧ shp a = (0, 11)) ∧ Ev L xs ρ 174 4 [l0, l1, l2, l3] (.int (I a 5) :: st) (n, I, Lm, Rm) r := ev_gtI cm_174 dX11_isHere_1 rfl rfl
theorem x174_4 : Ev L xs ρ 174 4 [l0, l1, l2, l3] (.int x :: st) σ r ↔ if x = 0 then Ev L xs ρ 174 7 [l0, l1, l2, l3] st σ r else Ev L xs ρ 174 28 [l0, l1, l2, l3] st σ r := ev_ifne cm_174 dX11_isHere_4 (by decide)
theorem x174_7 : Ev L xs ρ 174 7 [some (.ref a), l1, l2, l3] st σ r ↔ Ev L xs ρ 174 8 [some (.ref a), l1, l2, l3] (.ref a :: st) σ r := ev_aload_n cm_174 dX11_isHere_7 rfl rfl
theorem x174_8 : Ev L xs 1 174 8 [l0, l1, l2, l3] (.ref a :: []) (n, I, Lm, Rm) r ↔ (a < n ∧ shp a = (0, 11)) ∧ ∃ v n2 I2 L2 R2, Em L xs 173 [.ref a] (n, I, Lm, Rm) (v, n2, I2, L2, R2) ∧ Ev L xs 1 174 11 [l0, l1, l2, l3] (v.toList ++ []) (n2, I2, L2, R2) r := ev_cV cm_174 [] dX11_isHere_8 rfl rfl rfl rfl (Nat.le_of_ble_eq_true rfl) (rka_lt rfl (by decide)) (Nat.le_of_ble_eq_true rfl)
theorem x174_11 : Ev L xs 1 174 11 [l0, l1, l2, l3] (.int x :: []) σ r ↔ ∃ v n2 I2 L2 R2, Em L xs 171 [.int x] σ (v, n2, I2, L2, R2) ∧ Ev L xs 1 174 14 [l0, l1, l2, l3] (v.toList ++ []) (n2, I2, L2, R2) r := ev_cS cm_174 [.int x] dX11_isHere_11 rfl rfl rfl (Nat.le_of_ble_eq_true rfl) (rka_lt rfl (by decide)) (Nat.le_of_ble_eq_true rfl)
theorem x174_14 : Ev L xs ρ 174 14 [l0, l1, l2, l3] (.int x :: st) σ r ↔ if x = 0 then Ev L xs ρ 174 28 [l0, l1, l2, l3] st σ r else Ev L xs ρ 174 17 [l0, l1, l2, l3] st σ r := ev_ifeq cm_174 dX11_isHere_14 (by decide)
theorem x174_17 : Ev L xs ρ 174 17 [some (.ref a), l1, l2, l3] st σ r ↔ Ev L xs ρ 174 18 [some (.ref a), l1, l2, l3] (.ref a :: st) σ r := ev_aload_n cm_174 dX11_isHere_17 rfl rfl
theorem x174_18 : Ev L xs ρ 174 18 [l0, l1, l2, l3] (.ref a :: st) (n, I, Lm, Rm) r ↔ (a < n ∧ shp a = (0, 11)) ∧ Ev L xs ρ 174 21 [l0, l1, l2, l3] (.int (I a 2) :: st) (n, I, Lm, Rm) r := ev_gtI cm_174 dX11_isHere_18 rfl rfl
theorem x174_21 : Ev L xs ρ 174 21 [some (.ref a), l1, l2, l3] st σ r ↔ Ev L xs ρ 174 22 [some (.ref a), l1, l2, l3] (.ref a :: st) σ r := ev_aload_n cm_174 dX11_isHere_21 rfl rfl
theorem x174_22 : Ev L xs ρ 174 22 [l0, l1, l2, l3] (.ref a :: st) (n, I, Lm, Rm) r ↔ (a < n ∧ shp a = (0, 11)) ∧ Ev L xs ρ 174 25 [l0, l1, l2, l3] (.int (I a 4) :: st) (n, I, Lm, Rm) r := ev_gtI cm_174 dX11_isHere_22 rfl rfl
theorem x174_25 : Ev L xs ρ 174 25 [l0, l1, l2, l3] (.int y :: .int x :: st) σ r ↔ if x = y then Ev L xs ρ 174 28 [l0, l1, l2, l3] st σ r else Ev L xs ρ 174 30 [l0, l1, l2, l3] st σ r := ev_icne cm_174 dX11_isHere_25 (by decide)
theorem x174_28 : Ev L xs ρ 174 28 [l0, l1, l2, l3] st σ r ↔ Ev L xs ρ 174 29 [l0, l1, l2, l3] (.int (0) :: st) σ r := ev_iconst cm_174 dX11_isHere_28 (by decide)
theorem x174_29 : Ev L xs ρ 174 29 [l0, l1, l2, l3] [.int x] σ r ↔ (x = 0 ∨ x = 1) ∧ r = (some (.int x), σ) := ev_retz cm_174 dX11_isHere_29 rfl
theorem x174_30 : Ev L xs ρ 174 30 [some (.ref a), l1, l2, l3] st σ r ↔ Ev L xs ρ 174 31 [some (.ref a), l1, l2, l3] (.ref a :: st) σ r := ev_aload_n cm_174 dX11_isHere_30 rfl rfl
theorem x174_31 : Ev L xs ρ 174 31 [l0, l1, l2, l3] (.ref a :: st) (n, I, Lm, Rm) r ↔ (a < n ∧ shp a = (0, 11)) ∧ Ev L xs ρ 174 34 [l0, l1, l2, l3] (.int (I a 2) :: st) (n, I, Lm, Rm) r := ev_gtI cm_174 dX11_isHere_31 rfl rfl
theorem x174_34 : Ev L xs ρ 174 34 [l0, l1, l2, l3] (.int x :: st) σ r ↔ Ev L xs ρ 174 35 [l0, l1, some (.int x), l3] st σ r := ev_istore_n cm_174 dX11_isHere_34 rfl (Nat.le_of_ble_eq_true rfl)
theorem x174_35 : Ev L xs ρ 174 35 [l0, l1, some (.int x), l3] st σ r ↔ Ev L xs ρ 174 36 [l0, l1, some (.int x), l3] (.int x :: st) σ r := ev_iload_n cm_174 dX11_isHere_35 rfl rfl
theorem x174_36 : Ev L xs ρ 174 36 [some (.ref a), l1, l2, l3] st σ r ↔ Ev L xs ρ 174 37 [some (.ref a), l1, l2, l3] (.ref a :: st) σ r := ev_aload_n cm_174 dX11_isHere_36 rfl rfl
theorem x174_37 : Ev L xs ρ 174 37 [l0, l1, l2, l3] (.ref a :: st) (n, I, Lm, Rm) r ↔ (a < n ∧ shp a = (0, 11)) ∧ Ev L xs ρ 174 40 [l0, l1, l2, l3] (.int (I a 3) :: st) (n, I, Lm, Rm) r := ev_gtI cm_174 dX11_isHere_37 rfl rfl
theorem x174_40 : Ev L xs ρ 174 40 [l0, l1, l2, l3] (.int y :: .int x :: st) σ r ↔ if y ≤ x then Ev L xs ρ 174 61 [l0, l1, l2, l3] st σ r else Ev L xs ρ 174 43 [l0, l1, l2, l3] st σ r := ev_icge cm_174 dX11_isHere_40 (by decide)
theorem x174_43 : Ev L xs ρ 174 43 [some (.ref a), l1, l2, l3] st σ r ↔ Ev L xs ρ 174 44 [some (.ref a), l1, l2, l3] (.ref a :: st) σ r := ev_aload_n cm_174 dX11_isHere_43 rfl rfl
theorem x174_44 : Ev L xs ρ 174 44 [l0, l1, l2, l3] (.ref a :: st) (n, I, Lm, Rm) r ↔ (a < n ∧ shp a = (0, 11)) ∧ Ev L xs ρ 174 47 [l0, l1, l2, l3] (rfv (Rm a 0) :: st) (n, I, Lm, Rm) r := ev_gtR cm_174 dX11_isHere_44 rfl rfl
theorem x174_47 : Ev L xs ρ 174 47 [l0, l1, some (.int x), l3] st σ r ↔ Ev L xs ρ 174 48 [l0, l1, some (.int x), l3] (.int x :: st) σ r := ev_iload_n cm_174 dX11_isHere_47 rfl rfl
theorem x174_48 : Ev L xs ρ 174 48 [l0, l1, l2, l3] (.int x :: .ref a :: st) (n, I, Lm, Rm) r ↔ ((a < n ∧ (shp a).1 = 1) ∧ inb x (shp a).2) ∧ Ev L xs ρ 174 49 [l0, l1, l2, l3] (.int (I a (ixn x)) :: st) (n, I, Lm, Rm) r := ev_iald cm_174 dX11_isHere_48 (by decide)
theorem x174_49 : Ev L xs 1 174 49 [l0, l1, l2, l3] (.int x :: []) σ r ↔ ∃ v n2 I2 L2 R2, Em L xs 171 [.int x] σ (v, n2, I2, L2, R2) ∧ Ev L xs 1 174 52 [l0, l1, l2, l3] (v.toList ++ []) (n2, I2, L2, R2) r := ev_cS cm_174 [.int x] dX11_isHere_49 rfl rfl rfl (Nat.le_of_ble_eq_true rfl) (rka_lt rfl (by decide)) (Nat.le_of_ble_eq_true rfl)
theorem x174_52 : Ev L xs ρ 174 52 [l0, l1, l2, l3] (.int x :: st) σ r ↔ if x = 0 then Ev L xs ρ 174 61 [l0, l1, l2, l3] st σ r else Ev L xs ρ 174 55 [l0, l1, l2, l3] st σ r := ev_ifeq cm_174 dX11_isHere_52 (by decide)
theorem x174_55 : Ev L xs ρ 174 55 [l0, l1, some (.int x), l3] st σ r ↔ Ev L xs ρ 174 58 [l0, l1, some (.int (x + (1))), l3] st σ r := ev_iinc cm_174 dX11_isHere_55 rfl (by decide)
theorem x174_58 : Ev L xs ρ 174 58 [l0, l1, l2, l3] st σ r ↔ Ev L xs ρ 174 35 [l0, l1, l2, l3] st σ r := ev_goto cm_174 dX11_isHere_58 (by decide)
theorem x174_61 : Ev L xs ρ 174 61 [l0, l1, some (.int x), l3] st σ r ↔ Ev L xs ρ 174 62 [l0, l1, some (.int x), l3] (.int x :: st) σ r := ev_iload_n cm_174 dX11_isHere_61 rfl rfl
theorem x174_62 : Ev L xs ρ 174 62 [some (.ref a), l1, l2, l3] st σ r ↔ Ev L xs ρ 174 63 [some (.ref a), l1, l2, l3] (.ref a :: st) σ r := ev_aload_n cm_174 dX11_isHere_62 rfl rfl
theorem x174_63 : Ev L xs ρ 174 63 [l0, l1, l2, l3] (.ref a :: st) (n, I, Lm, Rm) r ↔ (a < n ∧ shp a = (0, 11)) ∧ Ev L xs ρ 174 66 [l0, l1, l2, l3] (.int (I a 2) :: st) (n, I, Lm, Rm) r := ev_gtI cm_174 dX11_isHere_63 rfl rfl
theorem x174_66 : Ev L xs ρ 174 66 [l0, l1, l2, l3] (.int y :: .int x :: st) σ r ↔ Ev L xs ρ 174 67 [l0, l1, l2, l3] (.int (x - y) :: st) σ r := ev_nx (ev_ex cm_174 dX11_isHere_66 rfl rfl)
theorem x174_67 : Ev L xs ρ 174 67 [l0, some (.ref a), l2, l3] st σ r ↔ Ev L xs ρ 174 68 [l0, some (.ref a), l2, l3] (.ref a :: st) σ r := ev_aload_n cm_174 dX11_isHere_67 rfl rfl
theorem x174_68 : Ev L xs ρ 174 68 [l0, l1, l2, l3] (.ref a :: st) (n, I, Lm, Rm) r ↔ (a < n ∧ (shp a).1 ≠ 0) ∧ Ev L xs ρ 174 69 [l0, l1, l2, l3] (.int (Int32.ofNat (shp a).2) :: st) (n, I, Lm, Rm) r := ev_alen cm_174 dX11_isHere_68 (by decide)
theorem x174_69 : Ev L xs ρ 174 69 [l0, l1, l2, l3] (.int y :: .int x :: st) σ r ↔ if x = y then Ev L xs ρ 174 74 [l0, l1, l2, l3] st σ r else Ev L xs ρ 174 72 [l0, l1, l2, l3] st σ r := ev_iceq cm_174 dX11_isHere_69 (by decide)
theorem x174_72 : Ev L xs ρ 174 72 [l0, l1, l2, l3] st σ r ↔ Ev L xs ρ 174 73 [l0, l1, l2, l3] (.int (0) :: st) σ r := ev_iconst cm_174 dX11_isHere_72 (by decide)
theorem x174_73 : Ev L xs ρ 174 73 [l0, l1, l2, l3] [.int x] σ r ↔ (x = 0 ∨ x = 1) ∧ r = (some (.int x), σ) := ev_retz cm_174 dX11_isHere_73 rfl
theorem x174_74 : Ev L xs ρ 174 74 [l0, l1, l2, l3] st σ r ↔ Ev L xs ρ 174 75 [l0, l1, l2, l3] (.int (0) :: st) σ r := ev_iconst cm_174 dX11_isHere_74 (by decide)
theorem x174_75 : Ev L xs ρ 174 75 [l0, l1, l2, l3] (.int x :: st) σ r ↔ Ev L xs ρ 174 76 [l0, l1, l2, some (.int x)] st σ r := ev_istore_n cm_174 dX11_isHere_75 rfl (Nat.le_of_ble_eq_true rfl)
theorem x174_76 : Ev L xs ρ 174 76 [l0, l1, l2, some (.int x)] st σ r ↔ Ev L xs ρ 174 77 [l0, l1, l2, some (.int x)] (.int x :: st) σ r := ev_iload_n cm_174 dX11_isHere_76 rfl rfl
theorem x174_77 : Ev L xs ρ 174 77 [l0, some (.ref a), l2, l3] st σ r ↔ Ev L xs ρ 174 78 [l0, some (.ref a), l2, l3] (.ref a :: st) σ r := ev_aload_n cm_174 dX11_isHere_77 rfl rfl
theorem x174_78 : Ev L xs ρ 174 78 [l0, l1, l2, l3] (.ref a :: st) (n, I, Lm, Rm) r ↔ (a < n ∧ (shp a).1 ≠ 0) ∧ Ev L xs ρ 174 79 [l0, l1, l2, l3] (.int (Int32.ofNat (shp a).2) :: st) (n, I, Lm, Rm) r := ev_alen cm_174 dX11_isHere_78 (by decide)
theorem x174_79 : Ev L xs ρ 174 79 [l0, l1, l2, l3] (.int y :: .int x :: st) σ r ↔ if y ≤ x then Ev L xs ρ 174 107 [l0, l1, l2, l3] st σ r else Ev L xs ρ 174 82 [l0, l1, l2, l3] st σ r := ev_icge cm_174 dX11_isHere_79 (by decide)
theorem x174_82 : Ev L xs ρ 174 82 [some (.ref a), l1, l2, l3] st σ r ↔ Ev L xs ρ 174 83 [some (.ref a), l1, l2, l3] (.ref a :: st) σ r := ev_aload_n cm_174 dX11_isHere_82 rfl rfl
theorem x174_83 : Ev L xs ρ 174 83 [l0, l1, l2, l3] (.ref a :: st) (n, I, Lm, Rm) r ↔ (a < n ∧ shp a = (0, 11)) ∧ Ev L xs ρ 174 86 [l0, l1, l2, l3] (rfv (Rm a 0) :: st) (n, I, Lm, Rm) r := ev_gtR cm_174 dX11_isHere_83 rfl rfl
theorem x174_86 : Ev L xs ρ 174 86 [some (.ref a), l1, l2, l3] st σ r ↔ Ev L xs ρ 174 87 [some (.ref a), l1, l2, l3] (.ref a :: st) σ r := ev_aload_n cm_174 dX11_isHere_86 rfl rfl
theorem x174_87 : Ev L xs ρ 174 87 [l0, l1, l2, l3] (.ref a :: st) (n, I, Lm, Rm) r ↔ (a < n ∧ shp a = (0, 11)) ∧ Ev L xs ρ 174 90 [l0, l1, l2, l3] (.int (I a 2) :: st) (n, I, Lm, Rm) r := ev_gtI cm_174 dX11_isHere_87 rfl rfl
theorem x174_90 : Ev L xs ρ 174 90 [l0, l1, l2, some (.int x)] st σ r ↔ Ev L xs ρ 174 91 [l0, l1, l2, some (.int x)] (.int x :: st) σ r := ev_iload_n cm_174 dX11_isHere_90 rfl rfl
theorem x174_91 : Ev L xs ρ 174 91 [l0, l1, l2, l3] (.int y :: .int x :: st) σ r ↔ Ev L xs ρ 174 92 [l0, l1, l2, l3] (.int (x + y) :: st) σ r := ev_nx (ev_ex cm_174 dX11_isHere_91 rfl rfl)
theorem x174_92 : Ev L xs ρ 174 92 [l0, l1, l2, l3] (.int x :: .ref a :: st) (n, I, Lm, Rm) r ↔ ((a < n ∧ (shp a).1 = 1) ∧ inb x (shp a).2) ∧ Ev L xs ρ 174 93 [l0, l1, l2, l3] (.int (I a (ixn x)) :: st) (n, I, Lm, Rm) r := ev_iald cm_174 dX11_isHere_92 (by decide)
theorem x174_93 : Ev L xs ρ 174 93 [l0, some (.ref a), l2, l3] st σ r ↔ Ev L xs ρ 174 94 [l0, some (.ref a), l2, l3] (.ref a :: st) σ r := ev_aload_n cm_174 dX11_isHere_93 rfl rfl
theorem x174_94 : Ev L xs ρ 174 94 [l0, l1, l2, some (.int x)] st σ r ↔ Ev L xs ρ 174 95 [l0, l1, l2, some (.int x)] (.int x :: st) σ r := ev_iload_n cm_174 dX11_isHere_94 rfl rfl
theorem x174_95 : Ev L xs ρ 174 95 [l0, l1, l2, l3] (.int x :: .ref a :: st) (n, I, Lm, Rm) r ↔ ((a < n ∧ (shp a).1 = 2) ∧ inb x (shp a).2) ∧ Ev L xs ρ 174 96 [l0, l1, l2, l3] (.int (I a (ixn x)) :: st) (n, I, Lm, Rm) r := ev_cald cm_174 dX11_isHere_95
theorem x174_96 : Ev L xs ρ 174 96 [l0, l1, l2, l3] (.int y :: .int x :: st) σ r ↔ if x = y then Ev L xs ρ 174 101 [l0, l1, l2, l3] st σ r else Ev L xs ρ 174 99 [l0, l1, l2, l3] st σ r := ev_iceq cm_174 dX11_isHere_96 (by decide)
theorem x174_99 : Ev L xs ρ 174 99 [l0, l1, l2, l3] st σ r ↔ Ev L xs ρ 174 100 [l0, l1, l2, l3] (.int (0) :: st) σ r := ev_iconst cm_174 dX11_isHere_99 (by decide)
theorem x174_100 : Ev L xs ρ 174 100 [l0, l1, l2, l3] [.int x] σ r ↔ (x = 0 ∨ x = 1) ∧ r = (some (.int x), σ) := ev_retz cm_174 dX11_isHere_100 rfl
theorem x174_101 : Ev L xs ρ 174 101 [l0, l1, l2, some (.int x)] st σ r ↔ Ev L xs ρ 174 104 [l0, l1, l2, some (.int (x + (1)))] st σ r := ev_iinc cm_174 dX11_isHere_101 rfl (by decide)
theorem x174_104 : Ev L xs ρ 174 104 [l0, l1, l2, l3] st σ r ↔ Ev L xs ρ 174 76 [l0, l1, l2, l3] st σ r := ev_goto cm_174 dX11_isHere_104 (by decide)
theorem x174_107 : Ev L xs ρ 174 107 [l0, l1, l2, l3] st σ r ↔ Ev L xs ρ 174 108 [l0, l1, l2, l3] (.int (1) :: st) σ r := ev_iconst cm_174 dX11_isHere_107 (by decide)
theorem x174_108 : Ev L xs ρ 174 108 [l0, l1, l2, l3] [.int x] σ r ↔ (x = 0 ∨ x = 1) ∧ r = (some (.int x), σ) := ev_retz cm_174 dX11_isHere_108 rfl
theorem cm_175 : mcd 175 = cX11_takes := rfl
theorem em_175 : Em L xs 175 [.ref a, .ref b] σ r ↔ Ev L xs 2 175 0 [some (.ref a), some (.ref b)] [] σ r := Iff.rfl
theorem x175_0 : Ev L xs ρ 175 0 [some (.ref a), l1] st σ r ↔ Ev L xs ρ 175 1 [some (.ref a), l1] (.ref a :: st) σ r := ev_aload_n cm_175 dX11_takes_0 rfl rfl
theorem x175_1 : Ev L xs ρ 175 1 [l0, some (.ref a)] st σ r ↔ Ev L xs ρ 175 2 [l0, some (.ref a)] (.ref a :: st) σ r := ev_aload_n cm_175 dX11_takes_1 rfl rfl
theorem x175_2 : Ev L xs 2 175 2 [l0, l1] (.ref b :: .ref a :: []) (n, I, Lm, Rm) r ↔ (a < n ∧ shp a = (0, 11)) ∧ ∃ v n2 I2 L2 R2, Em L xs 174 [.ref a, .ref b] (n, I, Lm, Rm) (v, n2, I2, L2, R2) ∧ Ev L xs 2 175 5 [l0, l1] (v.toList ++ []) (n2, I2, L2, R2) r := ev_cV cm_175 [.ref b] dX11_takes_2 rfl rfl rfl rfl (Nat.le_of_ble_eq_true rfl) (rka_lt rfl (by decide)) (Nat.le_of_ble_eq_true rfl)
theorem x175_5 : Ev L xs ρ 175 5 [l0, l1] (.int x :: st) σ r ↔ if x = 0 then Ev L xs ρ 175 8 [l0, l1] st σ r else Ev L xs ρ 175 10 [l0, l1] st σ r := ev_ifne cm_175 dX11_takes_5 (by decide)
theorem x175_8 : Ev L xs ρ 175 8 [l0, l1] st σ r ↔ Ev L xs ρ 175 9 [l0, l1] (.int (0) :: st) σ r := ev_iconst cm_175 dX11_takes_8 (by decide)
theorem x175_9 : Ev L xs ρ 175 9 [l0, l1] [.int x] σ r ↔ (x = 0 ∨ x = 1) ∧ r = (some (.int x), σ) := ev_retz cm_175 dX11_takes_9 rfl
theorem x175_10 : Ev L xs ρ 175 10 [some (.ref a), l1] st σ r ↔ Ev L xs ρ 175 11 [some (.ref a), l1] (.ref a :: st) σ r := ev_aload_n cm_175 dX11_takes_10 rfl rfl
theorem x175_11 : Ev L xs ρ 175 11 [l0, l1] (.ref a :: st) σ r ↔ Ev L xs ρ 175 12 [l0, l1] (.ref a :: .ref a :: st) σ r := ev_nx (ev_ex cm_175 dX11_takes_11 rfl rfl)
theorem x175_12 : Ev L xs ρ 175 12 [l0, l1] (.ref a :: st) (n, I, Lm, Rm) r ↔ (a < n ∧ shp a = (0, 11)) ∧ Ev L xs ρ 175 15 [l0, l1] (.int (I a 2) :: st) (n, I, Lm, Rm) r := ev_gtI cm_175 dX11_takes_12 rfl rfl
theorem x175_15 : Ev L xs ρ 175 15 [l0, some (.ref a)] st σ r ↔ Ev L xs ρ 175 16 [l0, some (.ref a)] (.ref a :: st) σ r := ev_aload_n cm_175 dX11_takes_15 rfl rfl
theorem x175_16 : Ev L xs ρ 175 16 [l0, l1] (.ref a :: st) (n, I, Lm, Rm) r ↔ (a < n ∧ (shp a).1 ≠ 0) ∧ Ev L xs ρ 175 17 [l0, l1] (.int (Int32.ofNat (shp a).2) :: st) (n, I, Lm, Rm) r := ev_alen cm_175 dX11_takes_16 (by decide)
theorem x175_17 : Ev L xs ρ 175 17 [l0, l1] (.int y :: .int x :: st) σ r ↔ Ev L xs ρ 175 18 [l0, l1] (.int (x + y) :: st) σ r := ev_nx (ev_ex cm_175 dX11_takes_17 rfl rfl)
theorem x175_18 : Ev L xs ρ 175 18 [l0, l1] (.int x :: .ref a :: st) (n, I, Lm, Rm) r ↔ (a < n ∧ shp a = (0, 11)) ∧ Ev L xs ρ 175 21 [l0, l1] st (n, up2 I a 2 x, Lm, Rm) r := ev_ptI cm_175 dX11_takes_18 rfl rfl (Or.inl rfl)
theorem x175_21 : Ev L xs ρ 175 21 [some (.ref a), l1] st σ r ↔ Ev L xs ρ 175 22 [some (.ref a), l1] (.ref a :: st) σ r := ev_aload_n cm_175 dX11_takes_21 rfl rfl
theorem x175_22 : Ev L xs ρ 175 22 [some (.ref a), l1] st σ r ↔ Ev L xs ρ 175 23 [some (.ref a), l1] (.ref a :: st) σ r := ev_aload_n cm_175 dX11_takes_22 rfl rfl
theorem x175_23 : Ev L xs ρ 175 23 [l0, l1] (.ref a :: st) (n, I, Lm, Rm) r ↔ (a < n ∧ shp a = (0, 11)) ∧ Ev L xs ρ 175 26 [l0, l1] (.int (I a 2) :: st) (n, I, Lm, Rm) r := ev_gtI cm_175 dX11_takes_23 rfl rfl
theorem x175_26 : Ev L xs ρ 175 26 [l0, l1] (.int x :: .ref a :: st) (n, I, Lm, Rm) r ↔ (a < n ∧ shp a = (0, 11)) ∧ Ev L xs ρ 175 29 [l0, l1] st (n, up2 I a 4 x, Lm, Rm) r := ev_ptI cm_175 dX11_takes_26 rfl rfl (Or.inl rfl)
theorem x175_29 : Ev L xs ρ 175 29 [l0, l1] st σ r ↔ Ev L xs ρ 175 30 [l0, l1] (.int (1) :: st) σ r := ev_iconst cm_175 dX11_takes_29 (by decide)
theorem x175_30 : Ev L xs ρ 175 30 [l0, l1] [.int x] σ r ↔ (x = 0 ∨ x = 1) ∧ r = (some (.int x), σ) := ev_retz cm_175 dX11_takes_30 rfl
theorem cm_176 : mcd 176 = cX11_asks := rfl
theorem em_176 : Em L xs 176 [.ref a, .ref b] σ r ↔ Ev L xs 3 176 0 [some (.ref a), some (.ref b)] [] σ r := Iff.rfl
theorem x176_0 : Ev L xs ρ 176 0 [some (.ref a), l1] st σ r ↔ Ev L xs ρ 176 1 [some (.ref a), l1] (.ref a :: st) σ r := ev_aload_n cm_176 dX11_asks_0 rfl rfl
theorem x176_1 : Ev L xs ρ 176 1 [l0, l1] (.ref a :: st) (n, I, Lm, Rm) r ↔ (a < n ∧ shp a = (0, 11)) ∧ Ev L xs ρ 176 4 [l0, l1] (.int (I a 5) :: st) (n, I, Lm, Rm) r := ev_gtI cm_176 dX11_asks_1 rfl rfl
theorem x176_4 : Ev L xs ρ 176 4 [l0, l1] (.int x :: st) σ r ↔ if x = 0 then Ev L xs ρ 176 7 [l0, l1] st σ r else Ev L xs ρ 176 24 [l0, l1] st σ r := ev_ifne cm_176 dX11_asks_4 (by decide)
theorem x176_7 : Ev L xs ρ 176 7 [some (.ref a), l1] st σ r ↔ Ev L xs ρ 176 8 [some (.ref a), l1] (.ref a :: st) σ r := ev_aload_n cm_176 dX11_asks_7 rfl rfl
theorem x176_8 : Ev L xs ρ 176 8 [l0, some (.ref a)] st σ r ↔ Ev L xs ρ 176 9 [l0, some (.ref a)] (.ref a :: st) σ r := ev_aload_n cm_176 dX11_asks_8 rfl rfl
theorem x176_9 : Ev L xs 3 176 9 [l0, l1] (.ref b :: .ref a :: []) (n, I, Lm, Rm) r ↔ (a < n ∧ shp a = (0, 11)) ∧ ∃ v n2 I2 L2 R2, Em L xs 175 [.ref a, .ref b] (n, I, Lm, Rm) (v, n2, I2, L2, R2) ∧ Ev L xs 3 176 12 [l0, l1] (v.toList ++ []) (n2, I2, L2, R2) r := ev_cV cm_176 [.ref b] dX11_asks_9 rfl rfl rfl rfl (Nat.le_of_ble_eq_true rfl) (rka_lt rfl (by decide)) (Nat.le_of_ble_eq_true rfl)
theorem x176_12 : Ev L xs ρ 176 12 [l0, l1] (.int x :: st) σ r ↔ if x = 0 then Ev L xs ρ 176 15 [l0, l1] st σ r else Ev L xs ρ 176 24 [l0, l1] st σ r := ev_ifne cm_176 dX11_asks_12 (by decide)
theorem x176_15 : Ev L xs ρ 176 15 [some (.ref a), l1] st σ r ↔ Ev L xs ρ 176 16 [some (.ref a), l1] (.ref a :: st) σ r := ev_aload_n cm_176 dX11_asks_15 rfl rfl
theorem x176_16 : Ev L xs ρ 176 16 [l0, l1] st σ r ↔ Ev L xs ρ 176 17 [l0, l1] (.int (1) :: st) σ r := ev_iconst cm_176 dX11_asks_16 (by decide)
theorem x176_17 : Ev L xs ρ 176 17 [some (.ref a), l1] st σ r ↔ Ev L xs ρ 176 18 [some (.ref a), l1] (.ref a :: st) σ r := ev_aload_n cm_176 dX11_asks_17 rfl rfl
theorem x176_18 : Ev L xs ρ 176 18 [l0, l1] (.ref a :: st) (n, I, Lm, Rm) r ↔ (a < n ∧ shp a = (0, 11)) ∧ Ev L xs ρ 176 21 [l0, l1] (.int (I a 2) :: st) (n, I, Lm, Rm) r := ev_gtI cm_176 dX11_asks_18 rfl rfl
theorem x176_21 : Ev L xs 3 176 21 [l0, l1] (.int y :: .int x :: .ref a :: []) (n, I, Lm, Rm) r ↔ (a < n ∧ shp a = (0, 11)) ∧ ∃ v n2 I2 L2 R2, Em L xs 170 [.ref a, .int x, .int y] (n, I, Lm, Rm) (v, n2, I2, L2, R2) ∧ Ev L xs 3 176 24 [l0, l1] (v.toList ++ []) (n2, I2, L2, R2) r := ev_cV cm_176 [.int x, .int y] dX11_asks_21 rfl rfl rfl rfl (Nat.le_of_ble_eq_true rfl) (rka_lt rfl (by decide)) (Nat.le_of_ble_eq_true rfl)
theorem x176_24 : Ev L xs ρ 176 24 [l0, l1] [] σ r ↔ r = (none, σ) := ev_retv cm_176 dX11_asks_24 rfl
theorem cm_177 : mcd 177 = cX11_takesSign := rfl
theorem em_177 : Em L xs 177 [.ref a, .int x] σ r ↔ Ev L xs 1 177 0 [some (.ref a), some (.int x)] [] σ r := Iff.rfl
theorem x177_0 : Ev L xs ρ 177 0 [some (.ref a), l1] st σ r ↔ Ev L xs ρ 177 1 [some (.ref a), l1] (.ref a :: st) σ r := ev_aload_n cm_177 dX11_takesSign_0 rfl rfl
theorem x177_1 : Ev L xs ρ 177 1 [l0, l1] (.ref a :: st) (n, I, Lm, Rm) r ↔ (a < n ∧ shp a = (0, 11)) ∧ Ev L xs ρ 177 4 [l0, l1] (.int (I a 5) :: st) (n, I, Lm, Rm) r := ev_gtI cm_177 dX11_takesSign_1 rfl rfl
theorem x177_4 : Ev L xs ρ 177 4 [l0, l1] (.int x :: st) σ r ↔ if x = 0 then Ev L xs ρ 177 7 [l0, l1] st σ r else Ev L xs ρ 177 15 [l0, l1] st σ r := ev_ifne cm_177 dX11_takesSign_4 (by decide)
theorem x177_7 : Ev L xs ρ 177 7 [some (.ref a), l1] st σ r ↔ Ev L xs ρ 177 8 [some (.ref a), l1] (.ref a :: st) σ r := ev_aload_n cm_177 dX11_takesSign_7 rfl rfl
theorem x177_8 : Ev L xs 1 177 8 [l0, l1] (.ref a :: []) (n, I, Lm, Rm) r ↔ (a < n ∧ shp a = (0, 11)) ∧ ∃ v n2 I2 L2 R2, Em L xs 173 [.ref a] (n, I, Lm, Rm) (v, n2, I2, L2, R2) ∧ Ev L xs 1 177 11 [l0, l1] (v.toList ++ []) (n2, I2, L2, R2) r := ev_cV cm_177 [] dX11_takesSign_8 rfl rfl rfl rfl (Nat.le_of_ble_eq_true rfl) (rka_lt rfl (by decide)) (Nat.le_of_ble_eq_true rfl)
theorem x177_11 : Ev L xs ρ 177 11 [l0, some (.int x)] st σ r ↔ Ev L xs ρ 177 12 [l0, some (.int x)] (.int x :: st) σ r := ev_iload_n cm_177 dX11_takesSign_11 rfl rfl
theorem x177_12 : Ev L xs ρ 177 12 [l0, l1] (.int y :: .int x :: st) σ r ↔ if x = y then Ev L xs ρ 177 17 [l0, l1] st σ r else Ev L xs ρ 177 15 [l0, l1] st σ r := ev_iceq cm_177 dX11_takesSign_12 (by decide)
theorem x177_15 : Ev L xs ρ 177 15 [l0, l1] st σ r ↔ Ev L xs ρ 177 16 [l0, l1] (.int (0) :: st) σ r := ev_iconst cm_177 dX11_takesSign_15 (by decide)
theorem x177_16 : Ev L xs ρ 177 16 [l0, l1] [.int x] σ r ↔ (x = 0 ∨ x = 1) ∧ r = (some (.int x), σ) := ev_retz cm_177 dX11_takesSign_16 rfl
theorem x177_17 : Ev L xs ρ 177 17 [some (.ref a), l1] st σ r ↔ Ev L xs ρ 177 18 [some (.ref a), l1] (.ref a :: st) σ r := ev_aload_n cm_177 dX11_takesSign_17 rfl rfl
theorem x177_18 : Ev L xs ρ 177 18 [l0, l1] (.ref a :: st) σ r ↔ Ev L xs ρ 177 19 [l0, l1] (.ref a :: .ref a :: st) σ r := ev_nx (ev_ex cm_177 dX11_takesSign_18 rfl rfl)
theorem x177_19 : Ev L xs ρ 177 19 [l0, l1] (.ref a :: st) (n, I, Lm, Rm) r ↔ (a < n ∧ shp a = (0, 11)) ∧ Ev L xs ρ 177 22 [l0, l1] (.int (I a 2) :: st) (n, I, Lm, Rm) r := ev_gtI cm_177 dX11_takesSign_19 rfl rfl
theorem x177_22 : Ev L xs ρ 177 22 [l0, l1] st σ r ↔ Ev L xs ρ 177 23 [l0, l1] (.int (1) :: st) σ r := ev_iconst cm_177 dX11_takesSign_22 (by decide)
theorem x177_23 : Ev L xs ρ 177 23 [l0, l1] (.int y :: .int x :: st) σ r ↔ Ev L xs ρ 177 24 [l0, l1] (.int (x + y) :: st) σ r := ev_nx (ev_ex cm_177 dX11_takesSign_23 rfl rfl)
theorem x177_24 : Ev L xs ρ 177 24 [l0, l1] (.int x :: .ref a :: st) (n, I, Lm, Rm) r ↔ (a < n ∧ shp a = (0, 11)) ∧ Ev L xs ρ 177 27 [l0, l1] st (n, up2 I a 2 x, Lm, Rm) r := ev_ptI cm_177 dX11_takesSign_24 rfl rfl (Or.inl rfl)
theorem x177_27 : Ev L xs ρ 177 27 [l0, l1] st σ r ↔ Ev L xs ρ 177 28 [l0, l1] (.int (1) :: st) σ r := ev_iconst cm_177 dX11_takesSign_27 (by decide)
theorem x177_28 : Ev L xs ρ 177 28 [l0, l1] [.int x] σ r ↔ (x = 0 ∨ x = 1) ∧ r = (some (.int x), σ) := ev_retz cm_177 dX11_takesSign_28 rfl
theorem cm_178 : mcd 178 = cX11_asksSign := rfl
theorem em_178 : Em L xs 178 [.ref a, .int x] σ r ↔ Ev L xs 2 178 0 [some (.ref a), some (.int x)] [] σ r := Iff.rfl
theorem x178_0 : Ev L xs ρ 178 0 [some (.ref a), l1] st σ r ↔ Ev L xs ρ 178 1 [some (.ref a), l1] (.ref a :: st) σ r := ev_aload_n cm_178 dX11_asksSign_0 rfl rfl
theorem x178_1 : Ev L xs ρ 178 1 [l0, l1] (.ref a :: st) (n, I, Lm, Rm) r ↔ (a < n ∧ shp a = (0, 11)) ∧ Ev L xs ρ 178 4 [l0, l1] (.int (I a 5) :: st) (n, I, Lm, Rm) r := ev_gtI cm_178 dX11_asksSign_1 rfl rfl
theorem x178_4 : Ev L xs ρ 178 4 [l0, l1] (.int x :: st) σ r ↔ if x = 0 then Ev L xs ρ 178 7 [l0, l1] st σ r else Ev L xs ρ 178 24 [l0, l1] st σ r := ev_ifne cm_178 dX11_asksSign_4 (by decide)
theorem x178_7 : Ev L xs ρ 178 7 [some (.ref a), l1] st σ r ↔ Ev L xs ρ 178 8 [some (.ref a), l1] (.ref a :: st) σ r := ev_aload_n cm_178 dX11_asksSign_7 rfl rfl
theorem x178_8 : Ev L xs ρ 178 8 [l0, some (.int x)] st σ r ↔ Ev L xs ρ 178 9 [l0, some (.int x)] (.int x :: st) σ r := ev_iload_n cm_178 dX11_asksSign_8 rfl rfl
theorem x178_9 : Ev L xs 2 178 9 [l0, l1] (.int x :: .ref a :: []) (n, I, Lm, Rm) r ↔ (a < n ∧ shp a = (0, 11)) ∧ ∃ v n2 I2 L2 R2, Em L xs 177 [.ref a, .int x] (n, I, Lm, Rm) (v, n2, I2, L2, R2) ∧ Ev L xs 2 178 12 [l0, l1] (v.toList ++ []) (n2, I2, L2, R2) r := ev_cV cm_178 [.int x] dX11_asksSign_9 rfl rfl rfl rfl (Nat.le_of_ble_eq_true rfl) (rka_lt rfl (by decide)) (Nat.le_of_ble_eq_true rfl)
theorem x178_12 : Ev L xs ρ 178 12 [l0, l1] (.int x :: st) σ r ↔ if x = 0 then Ev L xs ρ 178 15 [l0, l1] st σ r else Ev L xs ρ 178 24 [l0, l1] st σ r := ev_ifne cm_178 dX11_asksSign_12 (by decide)
theorem x178_15 : Ev L xs ρ 178 15 [some (.ref a), l1] st σ r ↔ Ev L xs ρ 178 16 [some (.ref a), l1] (.ref a :: st) σ r := ev_aload_n cm_178 dX11_asksSign_15 rfl rfl
theorem x178_16 : Ev L xs ρ 178 16 [l0, l1] st σ r ↔ Ev L xs ρ 178 17 [l0, l1] (.int (1) :: st) σ r := ev_iconst cm_178 dX11_asksSign_16 (by decide)
theorem x178_17 : Ev L xs ρ 178 17 [some (.ref a), l1] st σ r ↔ Ev L xs ρ 178 18 [some (.ref a), l1] (.ref a :: st) σ r := ev_aload_n cm_178 dX11_asksSign_17 rfl rfl
theorem x178_18 : Ev L xs ρ 178 18 [l0, l1] (.ref a :: st) (n, I, Lm, Rm) r ↔ (a < n ∧ shp a = (0, 11)) ∧ Ev L xs ρ 178 21 [l0, l1] (.int (I a 2) :: st) (n, I, Lm, Rm) r := ev_gtI cm_178 dX11_asksSign_18 rfl rfl
theorem x178_21 : Ev L xs 2 178 21 [l0, l1] (.int y :: .int x :: .ref a :: []) (n, I, Lm, Rm) r ↔ (a < n ∧ shp a = (0, 11)) ∧ ∃ v n2 I2 L2 R2, Em L xs 170 [.ref a, .int x, .int y] (n, I, Lm, Rm) (v, n2, I2, L2, R2) ∧ Ev L xs 2 178 24 [l0, l1] (v.toList ++ []) (n2, I2, L2, R2) r := ev_cV cm_178 [.int x, .int y] dX11_asksSign_21 rfl rfl rfl rfl (Nat.le_of_ble_eq_true rfl) (rka_lt rfl (by decide)) (Nat.le_of_ble_eq_true rfl)
theorem x178_24 : Ev L xs ρ 178 24 [l0, l1] [] σ r ↔ r = (none, σ) := ev_retv cm_178 dX11_asksSign_24 rfl
theorem cm_179 : mcd 179 = cX11_number := rfl
theorem em_179 : Em L xs 179 [.ref a, .int x, .int y] σ r ↔ Ev L xs 1 179 0 [some (.ref a), some (.int x), some (.int y), none, none] [] σ r := Iff.rfl
theorem x179_0 : Ev L xs ρ 179 0 [some (.ref a), l1, l2, l3, l4] st σ r ↔ Ev L xs ρ 179 1 [some (.ref a), l1, l2, l3, l4] (.ref a :: st) σ r := ev_aload_n cm_179 dX11_number_0 rfl rfl
theorem x179_1 : Ev L xs ρ 179 1 [l0, l1, l2, l3, l4] (.ref a :: st) (n, I, Lm, Rm) r ↔ (a < n ∧ shp a = (0, 11)) ∧ Ev L xs ρ 179 4 [l0, l1, l2, l3, l4] (.int (I a 5) :: st) (n, I, Lm, Rm) r := ev_gtI cm_179 dX11_number_1 rfl rfl
theorem x179_4 : Ev L xs ρ 179 4 [l0, l1, l2, l3, l4] (.int x :: st) σ r ↔ if x = 0 then Ev L xs ρ 179 9 [l0, l1, l2, l3, l4] st σ r else Ev L xs ρ 179 7 [l0, l1, l2, l3, l4] st σ r := ev_ifeq cm_179 dX11_number_4 (by decide)
theorem x179_7 : Ev L xs ρ 179 7 [l0, l1, l2, l3, l4] st σ r ↔ Ev L xs ρ 179 8 [l0, l1, l2, l3, l4] (.int (0) :: st) σ r := ev_iconst cm_179 dX11_number_7 (by decide)
theorem x179_8 : Ev L xs ρ 179 8 [l0, l1, l2, l3, l4] [.int x] σ r ↔ r = (some (.int x), σ) := ev_reti cm_179 dX11_number_8 rfl
theorem x179_9 : Ev L xs ρ 179 9 [some (.ref a), l1, l2, l3, l4] st σ r ↔ Ev L xs ρ 179 10 [some (.ref a), l1, l2, l3, l4] (.ref a :: st) σ r := ev_aload_n cm_179 dX11_number_9 rfl rfl
theorem x179_10 : Ev L xs 1 179 10 [l0, l1, l2, l3, l4] (.ref a :: []) (n, I, Lm, Rm) r ↔ (a < n ∧ shp a = (0, 11)) ∧ ∃ v n2 I2 L2 R2, Em L xs 173 [.ref a] (n, I, Lm, Rm) (v, n2, I2, L2, R2) ∧ Ev L xs 1 179 13 [l0, l1, l2, l3, l4] (v.toList ++ []) (n2, I2, L2, R2) r := ev_cV cm_179 [] dX11_number_10 rfl rfl rfl rfl (Nat.le_of_ble_eq_true rfl) (rka_lt rfl (by decide)) (Nat.le_of_ble_eq_true rfl)
theorem x179_13 : Ev L xs 1 179 13 [l0, l1, l2, l3, l4] (.int x :: []) σ r ↔ ∃ v n2 I2 L2 R2, Em L xs 172 [.int x] σ (v, n2, I2, L2, R2) ∧ Ev L xs 1 179 16 [l0, l1, l2, l3, l4] (v.toList ++ []) (n2, I2, L2, R2) r := ev_cS cm_179 [.int x] dX11_number_13 rfl rfl rfl (Nat.le_of_ble_eq_true rfl) (rka_lt rfl (by decide)) (Nat.le_of_ble_eq_true rfl)
theorem x179_16 : Ev L xs ρ 179 16 [l0, l1, l2, l3, l4] (.int x :: st) σ r ↔ if x = 0 then Ev L xs ρ 179 30 [l0, l1, l2, l3, l4] st σ r else Ev L xs ρ 179 19 [l0, l1, l2, l3, l4] st σ r := ev_ifeq cm_179 dX11_number_16 (by decide)
theorem x179_19 : Ev L xs ρ 179 19 [some (.ref a), l1, l2, l3, l4] st σ r ↔ Ev L xs ρ 179 20 [some (.ref a), l1, l2, l3, l4] (.ref a :: st) σ r := ev_aload_n cm_179 dX11_number_19 rfl rfl
theorem x179_20 : Ev L xs ρ 179 20 [l0, l1, l2, l3, l4] (.ref a :: st) (n, I, Lm, Rm) r ↔ (a < n ∧ shp a = (0, 11)) ∧ Ev L xs ρ 179 23 [l0, l1, l2, l3, l4] (.int (I a 2) :: st) (n, I, Lm, Rm) r := ev_gtI cm_179 dX11_number_20 rfl rfl
theorem x179_23 : Ev L xs ρ 179 23 [some (.ref a), l1, l2, l3, l4] st σ r ↔ Ev L xs ρ 179 24 [some (.ref a), l1, l2, l3, l4] (.ref a :: st) σ r := ev_aload_n cm_179 dX11_number_23 rfl rfl
theorem x179_24 : Ev L xs ρ 179 24 [l0, l1, l2, l3, l4] (.ref a :: st) (n, I, Lm, Rm) r ↔ (a < n ∧ shp a = (0, 11)) ∧ Ev L xs ρ 179 27 [l0, l1, l2, l3, l4] (.int (I a 4) :: st) (n, I, Lm, Rm) r := ev_gtI cm_179 dX11_number_24 rfl rfl
theorem x179_27 : Ev L xs ρ 179 27 [l0, l1, l2, l3, l4] (.int y :: .int x :: st) σ r ↔ if x = y then Ev L xs ρ 179 30 [l0, l1, l2, l3, l4] st σ r else Ev L xs ρ 179 41 [l0, l1, l2, l3, l4] st σ r := ev_icne cm_179 dX11_number_27 (by decide)
theorem x179_30 : Ev L xs ρ 179 30 [some (.ref a), l1, l2, l3, l4] st σ r ↔ Ev L xs ρ 179 31 [some (.ref a), l1, l2, l3, l4] (.ref a :: st) σ r := ev_aload_n cm_179 dX11_number_30 rfl rfl
theorem x179_31 : Ev L xs ρ 179 31 [l0, l1, l2, l3, l4] st σ r ↔ Ev L xs ρ 179 32 [l0, l1, l2, l3, l4] (.int (1) :: st) σ r := ev_iconst cm_179 dX11_number_31 (by decide)
theorem x179_32 : Ev L xs ρ 179 32 [some (.ref a), l1, l2, l3, l4] st σ r ↔ Ev L xs ρ 179 33 [some (.ref a), l1, l2, l3, l4] (.ref a :: st) σ r := ev_aload_n cm_179 dX11_number_32 rfl rfl
theorem x179_33 : Ev L xs ρ 179 33 [l0, l1, l2, l3, l4] (.ref a :: st) (n, I, Lm, Rm) r ↔ (a < n ∧ shp a = (0, 11)) ∧ Ev L xs ρ 179 36 [l0, l1, l2, l3, l4] (.int (I a 2) :: st) (n, I, Lm, Rm) r := ev_gtI cm_179 dX11_number_33 rfl rfl
theorem x179_36 : Ev L xs 1 179 36 [l0, l1, l2, l3, l4] (.int y :: .int x :: .ref a :: []) (n, I, Lm, Rm) r ↔ (a < n ∧ shp a = (0, 11)) ∧ ∃ v n2 I2 L2 R2, Em L xs 170 [.ref a, .int x, .int y] (n, I, Lm, Rm) (v, n2, I2, L2, R2) ∧ Ev L xs 1 179 39 [l0, l1, l2, l3, l4] (v.toList ++ []) (n2, I2, L2, R2) r := ev_cV cm_179 [.int x, .int y] dX11_number_36 rfl rfl rfl rfl (Nat.le_of_ble_eq_true rfl) (rka_lt rfl (by decide)) (Nat.le_of_ble_eq_true rfl)
theorem x179_39 : Ev L xs ρ 179 39 [l0, l1, l2, l3, l4] st σ r ↔ Ev L xs ρ 179 40 [l0, l1, l2, l3, l4] (.int (0) :: st) σ r := ev_iconst cm_179 dX11_number_39 (by decide)
theorem x179_40 : Ev L xs ρ 179 40 [l0, l1, l2, l3, l4] [.int x] σ r ↔ r = (some (.int x), σ) := ev_reti cm_179 dX11_number_40 rfl
theorem x179_41 : Ev L xs ρ 179 41 [some (.ref a), l1, l2, l3, l4] st σ r ↔ Ev L xs ρ 179 42 [some (.ref a), l1, l2, l3, l4] (.ref a :: st) σ r := ev_aload_n cm_179 dX11_number_41 rfl rfl
theorem x179_42 : Ev L xs ρ 179 42 [l0, l1, l2, l3, l4] (.ref a :: st) (n, I, Lm, Rm) r ↔ (a < n ∧ shp a = (0, 11)) ∧ Ev L xs ρ 179 45 [l0, l1, l2, l3, l4] (.int (I a 2) :: st) (n, I, Lm, Rm) r := ev_gtI cm_179 dX11_number_42 rfl rfl
theorem x179_45 : Ev L xs ρ 179 45 [l0, l1, l2, l3, l4] (.int x :: st) σ r ↔ Ev L xs ρ 179 46 [l0, l1, l2, some (.int x), l4] st σ r := ev_istore_n cm_179 dX11_number_45 rfl (Nat.le_of_ble_eq_true rfl)
theorem x179_46 : Ev L xs ρ 179 46 [l0, l1, l2, l3, l4] st σ r ↔ Ev L xs ρ 179 47 [l0, l1, l2, l3, l4] (.int (0) :: st) σ r := ev_iconst cm_179 dX11_number_46 (by decide)
theorem x179_47 : Ev L xs ρ 179 47 [l0, l1, l2, l3, l4] (.int x :: st) σ r ↔ Ev L xs ρ 179 49 [l0, l1, l2, l3, some (.int x)] st σ r := ev_istore cm_179 dX11_number_47 (Nat.le_of_ble_eq_true rfl)
theorem x179_49 : Ev L xs ρ 179 49 [some (.ref a), l1, l2, l3, l4] st σ r ↔ Ev L xs ρ 179 50 [some (.ref a), l1, l2, l3, l4] (.ref a :: st) σ r := ev_aload_n cm_179 dX11_number_49 rfl rfl
theorem x179_50 : Ev L xs ρ 179 50 [l0, l1, l2, l3, l4] (.ref a :: st) (n, I, Lm, Rm) r ↔ (a < n ∧ shp a = (0, 11)) ∧ Ev L xs ρ 179 53 [l0, l1, l2, l3, l4] (.int (I a 2) :: st) (n, I, Lm, Rm) r := ev_gtI cm_179 dX11_number_50 rfl rfl
theorem x179_53 : Ev L xs ρ 179 53 [some (.ref a), l1, l2, l3, l4] st σ r ↔ Ev L xs ρ 179 54 [some (.ref a), l1, l2, l3, l4] (.ref a :: st) σ r := ev_aload_n cm_179 dX11_number_53 rfl rfl
theorem x179_54 : Ev L xs ρ 179 54 [l0, l1, l2, l3, l4] (.ref a :: st) (n, I, Lm, Rm) r ↔ (a < n ∧ shp a = (0, 11)) ∧ Ev L xs ρ 179 57 [l0, l1, l2, l3, l4] (.int (I a 3) :: st) (n, I, Lm, Rm) r := ev_gtI cm_179 dX11_number_54 rfl rfl
theorem x179_57 : Ev L xs ρ 179 57 [l0, l1, l2, l3, l4] (.int y :: .int x :: st) σ r ↔ if y ≤ x then Ev L xs ρ 179 129 [l0, l1, l2, l3, l4] st σ r else Ev L xs ρ 179 60 [l0, l1, l2, l3, l4] st σ r := ev_icge cm_179 dX11_number_57 (by decide)
theorem x179_60 : Ev L xs ρ 179 60 [some (.ref a), l1, l2, l3, l4] st σ r ↔ Ev L xs ρ 179 61 [some (.ref a), l1, l2, l3, l4] (.ref a :: st) σ r := ev_aload_n cm_179 dX11_number_60 rfl rfl
theorem x179_61 : Ev L xs ρ 179 61 [l0, l1, l2, l3, l4] (.ref a :: st) (n, I, Lm, Rm) r ↔ (a < n ∧ shp a = (0, 11)) ∧ Ev L xs ρ 179 64 [l0, l1, l2, l3, l4] (rfv (Rm a 0) :: st) (n, I, Lm, Rm) r := ev_gtR cm_179 dX11_number_61 rfl rfl
theorem x179_64 : Ev L xs ρ 179 64 [some (.ref a), l1, l2, l3, l4] st σ r ↔ Ev L xs ρ 179 65 [some (.ref a), l1, l2, l3, l4] (.ref a :: st) σ r := ev_aload_n cm_179 dX11_number_64 rfl rfl
theorem x179_65 : Ev L xs ρ 179 65 [l0, l1, l2, l3, l4] (.ref a :: st) (n, I, Lm, Rm) r ↔ (a < n ∧ shp a = (0, 11)) ∧ Ev L xs ρ 179 68 [l0, l1, l2, l3, l4] (.int (I a 2) :: st) (n, I, Lm, Rm) r := ev_gtI cm_179 dX11_number_65 rfl rfl
theorem x179_68 : Ev L xs ρ 179 68 [l0, l1, l2, l3, l4] (.int x :: .ref a :: st) (n, I, Lm, Rm) r ↔ ((a < n ∧ (shp a).1 = 1) ∧ inb x (shp a).2) ∧ Ev L xs ρ 179 69 [l0, l1, l2, l3, l4] (.int (I a (ixn x)) :: st) (n, I, Lm, Rm) r := ev_iald cm_179 dX11_number_68 (by decide)
theorem x179_69 : Ev L xs 1 179 69 [l0, l1, l2, l3, l4] (.int x :: []) σ r ↔ ∃ v n2 I2 L2 R2, Em L xs 172 [.int x] σ (v, n2, I2, L2, R2) ∧ Ev L xs 1 179 72 [l0, l1, l2, l3, l4] (v.toList ++ []) (n2, I2, L2, R2) r := ev_cS cm_179 [.int x] dX11_number_69 rfl rfl rfl (Nat.le_of_ble_eq_true rfl) (rka_lt rfl (by decide)) (Nat.le_of_ble_eq_true rfl)
theorem x179_72 : Ev L xs ρ 179 72 [l0, l1, l2, l3, l4] (.int x :: st) σ r ↔ if x = 0 then Ev L xs ρ 179 129 [l0, l1, l2, l3, l4] st σ r else Ev L xs ρ 179 75 [l0, l1, l2, l3, l4] st σ r := ev_ifeq cm_179 dX11_number_72 (by decide)
theorem x179_75 : Ev L xs ρ 179 75 [some (.ref a), l1, l2, l3, l4] st σ r ↔ Ev L xs ρ 179 76 [some (.ref a), l1, l2, l3, l4] (.ref a :: st) σ r := ev_aload_n cm_179 dX11_number_75 rfl rfl
theorem x179_76 : Ev L xs ρ 179 76 [l0, l1, l2, l3, l4] (.ref a :: st) (n, I, Lm, Rm) r ↔ (a < n ∧ shp a = (0, 11)) ∧ Ev L xs ρ 179 79 [l0, l1, l2, l3, l4] (.int (I a 2) :: st) (n, I, Lm, Rm) r := ev_gtI cm_179 dX11_number_76 rfl rfl
theorem x179_79 : Ev L xs ρ 179 79 [l0, l1, l2, some (.int x), l4] st σ r ↔ Ev L xs ρ 179 80 [l0, l1, l2, some (.int x), l4] (.int x :: st) σ r := ev_iload_n cm_179 dX11_number_79 rfl rfl
theorem x179_80 : Ev L xs ρ 179 80 [l0, l1, l2, l3, l4] (.int y :: .int x :: st) σ r ↔ Ev L xs ρ 179 81 [l0, l1, l2, l3, l4] (.int (x - y) :: st) σ r := ev_nx (ev_ex cm_179 dX11_number_80 rfl rfl)
theorem x179_81 : Ev L xs ρ 179 81 [l0, l1, l2, l3, l4] st σ r ↔ Ev L xs ρ 179 82 [l0, l1, l2, l3, l4] (.int (4) :: st) σ r := ev_iconst cm_179 dX11_number_81 (by decide)
theorem x179_82 : Ev L xs ρ 179 82 [l0, l1, l2, l3, l4] (.int y :: .int x :: st) σ r ↔ if x = y then Ev L xs ρ 179 85 [l0, l1, l2, l3, l4] st σ r else Ev L xs ρ 179 96 [l0, l1, l2, l3, l4] st σ r := ev_icne cm_179 dX11_number_82 (by decide)
theorem x179_85 : Ev L xs ρ 179 85 [some (.ref a), l1, l2, l3, l4] st σ r ↔ Ev L xs ρ 179 86 [some (.ref a), l1, l2, l3, l4] (.ref a :: st) σ r := ev_aload_n cm_179 dX11_number_85 rfl rfl
theorem x179_86 : Ev L xs ρ 179 86 [l0, l1, l2, l3, l4] st σ r ↔ Ev L xs ρ 179 87 [l0, l1, l2, l3, l4] (.int (1) :: st) σ r := ev_iconst cm_179 dX11_number_86 (by decide)
theorem x179_87 : Ev L xs ρ 179 87 [some (.ref a), l1, l2, l3, l4] st σ r ↔ Ev L xs ρ 179 88 [some (.ref a), l1, l2, l3, l4] (.ref a :: st) σ r := ev_aload_n cm_179 dX11_number_87 rfl rfl
theorem x179_88 : Ev L xs ρ 179 88 [l0, l1, l2, l3, l4] (.ref a :: st) (n, I, Lm, Rm) r ↔ (a < n ∧ shp a = (0, 11)) ∧ Ev L xs ρ 179 91 [l0, l1, l2, l3, l4] (.int (I a 2) :: st) (n, I, Lm, Rm) r := ev_gtI cm_179 dX11_number_88 rfl rfl
theorem x179_91 : Ev L xs 1 179 91 [l0, l1, l2, l3, l4] (.int y :: .int x :: .ref a :: []) (n, I, Lm, Rm) r ↔ (a < n ∧ shp a = (0, 11)) ∧ ∃ v n2 I2 L2 R2, Em L xs 170 [.ref a, .int x, .int y] (n, I, Lm, Rm) (v, n2, I2, L2, R2) ∧ Ev L xs 1 179 94 [l0, l1, l2, l3, l4] (v.toList ++ []) (n2, I2, L2, R2) r := ev_cV cm_179 [.int x, .int y] dX11_number_91 rfl rfl rfl rfl (Nat.le_of_ble_eq_true rfl) (rka_lt rfl (by decide)) (Nat.le_of_ble_eq_true rfl)
theorem x179_94 : Ev L xs ρ 179 94 [l0, l1, l2, l3, l4] st σ r ↔ Ev L xs ρ 179 95 [l0, l1, l2, l3, l4] (.int (0) :: st) σ r := ev_iconst cm_179 dX11_number_94 (by decide)
theorem x179_95 : Ev L xs ρ 179 95 [l0, l1, l2, l3, l4] [.int x] σ r ↔ r = (some (.int x), σ) := ev_reti cm_179 dX11_number_95 rfl
theorem x179_96 : Ev L xs ρ 179 96 [l0, l1, l2, l3, l4] st σ r ↔ Ev L xs ρ 179 98 [l0, l1, l2, l3, l4] (.int (10) :: st) σ r := ev_bipush cm_179 dX11_number_96 (by decide)
theorem x179_98 : Ev L xs ρ 179 98 [l0, l1, l2, l3, some (.int x)] st σ r ↔ Ev L xs ρ 179 100 [l0, l1, l2, l3, some (.int x)] (.int x :: st) σ r := ev_iload cm_179 dX11_number_98 rfl
theorem x179_100 : Ev L xs ρ 179 100 [l0, l1, l2, l3, l4] (.int y :: .int x :: st) σ r ↔ Ev L xs ρ 179 101 [l0, l1, l2, l3, l4] (.int (x * y) :: st) σ r := ev_nx (ev_ex cm_179 dX11_number_100 rfl rfl)
theorem x179_101 : Ev L xs ρ 179 101 [some (.ref a), l1, l2, l3, l4] st σ r ↔ Ev L xs ρ 179 102 [some (.ref a), l1, l2, l3, l4] (.ref a :: st) σ r := ev_aload_n cm_179 dX11_number_101 rfl rfl
theorem x179_102 : Ev L xs ρ 179 102 [l0, l1, l2, l3, l4] (.ref a :: st) (n, I, Lm, Rm) r ↔ (a < n ∧ shp a = (0, 11)) ∧ Ev L xs ρ 179 105 [l0, l1, l2, l3, l4] (rfv (Rm a 0) :: st) (n, I, Lm, Rm) r := ev_gtR cm_179 dX11_number_102 rfl rfl
theorem x179_105 : Ev L xs ρ 179 105 [some (.ref a), l1, l2, l3, l4] st σ r ↔ Ev L xs ρ 179 106 [some (.ref a), l1, l2, l3, l4] (.ref a :: st) σ r := ev_aload_n cm_179 dX11_number_105 rfl rfl
theorem x179_106 : Ev L xs ρ 179 106 [l0, l1, l2, l3, l4] (.ref a :: st) (n, I, Lm, Rm) r ↔ (a < n ∧ shp a = (0, 11)) ∧ Ev L xs ρ 179 109 [l0, l1, l2, l3, l4] (.int (I a 2) :: st) (n, I, Lm, Rm) r := ev_gtI cm_179 dX11_number_106 rfl rfl
theorem x179_109 : Ev L xs ρ 179 109 [l0, l1, l2, l3, l4] (.int x :: .ref a :: st) (n, I, Lm, Rm) r ↔ ((a < n ∧ (shp a).1 = 1) ∧ inb x (shp a).2) ∧ Ev L xs ρ 179 110 [l0, l1, l2, l3, l4] (.int (I a (ixn x)) :: st) (n, I, Lm, Rm) r := ev_iald cm_179 dX11_number_109 (by decide)
theorem x179_110 : Ev L xs ρ 179 110 [l0, l1, l2, l3, l4] (.int y :: .int x :: st) σ r ↔ Ev L xs ρ 179 111 [l0, l1, l2, l3, l4] (.int (x + y) :: st) σ r := ev_nx (ev_ex cm_179 dX11_number_110 rfl rfl)
theorem x179_111 : Ev L xs ρ 179 111 [l0, l1, l2, l3, l4] st σ r ↔ Ev L xs ρ 179 113 [l0, l1, l2, l3, l4] (.int (48) :: st) σ r := ev_bipush cm_179 dX11_number_111 (by decide)
theorem x179_113 : Ev L xs ρ 179 113 [l0, l1, l2, l3, l4] (.int y :: .int x :: st) σ r ↔ Ev L xs ρ 179 114 [l0, l1, l2, l3, l4] (.int (x - y) :: st) σ r := ev_nx (ev_ex cm_179 dX11_number_113 rfl rfl)
theorem x179_114 : Ev L xs ρ 179 114 [l0, l1, l2, l3, l4] (.int x :: st) σ r ↔ Ev L xs ρ 179 116 [l0, l1, l2, l3, some (.int x)] st σ r := ev_istore cm_179 dX11_number_114 (Nat.le_of_ble_eq_true rfl)
theorem x179_116 : Ev L xs ρ 179 116 [some (.ref a), l1, l2, l3, l4] st σ r ↔ Ev L xs ρ 179 117 [some (.ref a), l1, l2, l3, l4] (.ref a :: st) σ r := ev_aload_n cm_179 dX11_number_116 rfl rfl
theorem x179_117 : Ev L xs ρ 179 117 [l0, l1, l2, l3, l4] (.ref a :: st) σ r ↔ Ev L xs ρ 179 118 [l0, l1, l2, l3, l4] (.ref a :: .ref a :: st) σ r := ev_nx (ev_ex cm_179 dX11_number_117 rfl rfl)
theorem x179_118 : Ev L xs ρ 179 118 [l0, l1, l2, l3, l4] (.ref a :: st) (n, I, Lm, Rm) r ↔ (a < n ∧ shp a = (0, 11)) ∧ Ev L xs ρ 179 121 [l0, l1, l2, l3, l4] (.int (I a 2) :: st) (n, I, Lm, Rm) r := ev_gtI cm_179 dX11_number_118 rfl rfl
theorem x179_121 : Ev L xs ρ 179 121 [l0, l1, l2, l3, l4] st σ r ↔ Ev L xs ρ 179 122 [l0, l1, l2, l3, l4] (.int (1) :: st) σ r := ev_iconst cm_179 dX11_number_121 (by decide)
theorem x179_122 : Ev L xs ρ 179 122 [l0, l1, l2, l3, l4] (.int y :: .int x :: st) σ r ↔ Ev L xs ρ 179 123 [l0, l1, l2, l3, l4] (.int (x + y) :: st) σ r := ev_nx (ev_ex cm_179 dX11_number_122 rfl rfl)
theorem x179_123 : Ev L xs ρ 179 123 [l0, l1, l2, l3, l4] (.int x :: .ref a :: st) (n, I, Lm, Rm) r ↔ (a < n ∧ shp a = (0, 11)) ∧ Ev L xs ρ 179 126 [l0, l1, l2, l3, l4] st (n, up2 I a 2 x, Lm, Rm) r := ev_ptI cm_179 dX11_number_123 rfl rfl (Or.inl rfl)
theorem x179_126 : Ev L xs ρ 179 126 [l0, l1, l2, l3, l4] st σ r ↔ Ev L xs ρ 179 49 [l0, l1, l2, l3, l4] st σ r := ev_goto cm_179 dX11_number_126 (by decide)
theorem x179_129 : Ev L xs ρ 179 129 [some (.ref a), l1, l2, l3, l4] st σ r ↔ Ev L xs ρ 179 130 [some (.ref a), l1, l2, l3, l4] (.ref a :: st) σ r := ev_aload_n cm_179 dX11_number_129 rfl rfl
theorem x179_130 : Ev L xs ρ 179 130 [some (.ref a), l1, l2, l3, l4] st σ r ↔ Ev L xs ρ 179 131 [some (.ref a), l1, l2, l3, l4] (.ref a :: st) σ r := ev_aload_n cm_179 dX11_number_130 rfl rfl
theorem x179_131 : Ev L xs ρ 179 131 [l0, l1, l2, l3, l4] (.ref a :: st) (n, I, Lm, Rm) r ↔ (a < n ∧ shp a = (0, 11)) ∧ Ev L xs ρ 179 134 [l0, l1, l2, l3, l4] (.int (I a 2) :: st) (n, I, Lm, Rm) r := ev_gtI cm_179 dX11_number_131 rfl rfl
theorem x179_134 : Ev L xs ρ 179 134 [l0, l1, l2, l3, l4] (.int x :: .ref a :: st) (n, I, Lm, Rm) r ↔ (a < n ∧ shp a = (0, 11)) ∧ Ev L xs ρ 179 137 [l0, l1, l2, l3, l4] st (n, up2 I a 4 x, Lm, Rm) r := ev_ptI cm_179 dX11_number_134 rfl rfl (Or.inl rfl)
theorem x179_137 : Ev L xs ρ 179 137 [l0, l1, l2, l3, some (.int x)] st σ r ↔ Ev L xs ρ 179 139 [l0, l1, l2, l3, some (.int x)] (.int x :: st) σ r := ev_iload cm_179 dX11_number_137 rfl
theorem x179_139 : Ev L xs ρ 179 139 [l0, l1, l2, l3, l4] (.int x :: st) σ r ↔ Ev L xs ρ 179 140 [l0, l1, l2, l3, l4] (.long x.toInt64 :: st) σ r := ev_nx (ev_ex cm_179 dX11_number_139 rfl rfl)
theorem x179_140 : Ev L xs ρ 179 140 [l0, some (.int x), l2, l3, l4] st σ r ↔ Ev L xs ρ 179 141 [l0, some (.int x), l2, l3, l4] (.int x :: st) σ r := ev_iload_n cm_179 dX11_number_140 rfl rfl
theorem x179_141 : Ev L xs ρ 179 141 [l0, l1, l2, l3, l4] (.int x :: st) σ r ↔ Ev L xs ρ 179 142 [l0, l1, l2, l3, l4] (.long x.toInt64 :: st) σ r := ev_nx (ev_ex cm_179 dX11_number_141 rfl rfl)
theorem x179_142 : Ev L xs ρ 179 142 [l0, l1, some (.int x), l3, l4] st σ r ↔ Ev L xs ρ 179 143 [l0, l1, some (.int x), l3, l4] (.int x :: st) σ r := ev_iload_n cm_179 dX11_number_142 rfl rfl
theorem x179_143 : Ev L xs ρ 179 143 [l0, l1, l2, l3, l4] (.int x :: st) σ r ↔ Ev L xs ρ 179 144 [l0, l1, l2, l3, l4] (.long x.toInt64 :: st) σ r := ev_nx (ev_ex cm_179 dX11_number_143 rfl rfl)
theorem x179_144 : Ev L xs 1 179 144 [l0, l1, l2, l3, l4] (.long u2 :: .long u1 :: .long u :: []) σ r ↔ ∃ v n2 I2 L2 R2, Em L xs 167 [.long u, .long u1, .long u2] σ (v, n2, I2, L2, R2) ∧ Ev L xs 1 179 147 [l0, l1, l2, l3, l4] (v.toList ++ []) (n2, I2, L2, R2) r := ev_cS cm_179 [.long u, .long u1, .long u2] dX11_number_144 rfl rfl rfl (Nat.le_of_ble_eq_true rfl) (rka_lt rfl (by decide)) (Nat.le_of_ble_eq_true rfl)
theorem x179_147 : Ev L xs ρ 179 147 [l0, l1, l2, l3, l4] (.int x :: st) σ r ↔ if x = 0 then Ev L xs ρ 179 150 [l0, l1, l2, l3, l4] st σ r else Ev L xs ρ 179 156 [l0, l1, l2, l3, l4] st σ r := ev_ifne cm_179 dX11_number_147 (by decide)
theorem x179_150 : Ev L xs ρ 179 150 [some (.ref a), l1, l2, l3, l4] st σ r ↔ Ev L xs ρ 179 151 [some (.ref a), l1, l2, l3, l4] (.ref a :: st) σ r := ev_aload_n cm_179 dX11_number_150 rfl rfl
theorem x179_151 : Ev L xs ρ 179 151 [l0, l1, l2, l3, l4] st σ r ↔ Ev L xs ρ 179 152 [l0, l1, l2, l3, l4] (.int (2) :: st) σ r := ev_iconst cm_179 dX11_number_151 (by decide)
theorem x179_152 : Ev L xs ρ 179 152 [l0, l1, l2, some (.int x), l4] st σ r ↔ Ev L xs ρ 179 153 [l0, l1, l2, some (.int x), l4] (.int x :: st) σ r := ev_iload_n cm_179 dX11_number_152 rfl rfl
theorem x179_153 : Ev L xs 1 179 153 [l0, l1, l2, l3, l4] (.int y :: .int x :: .ref a :: []) (n, I, Lm, Rm) r ↔ (a < n ∧ shp a = (0, 11)) ∧ ∃ v n2 I2 L2 R2, Em L xs 170 [.ref a, .int x, .int y] (n, I, Lm, Rm) (v, n2, I2, L2, R2) ∧ Ev L xs 1 179 156 [l0, l1, l2, l3, l4] (v.toList ++ []) (n2, I2, L2, R2) r := ev_cV cm_179 [.int x, .int y] dX11_number_153 rfl rfl rfl rfl (Nat.le_of_ble_eq_true rfl) (rka_lt rfl (by decide)) (Nat.le_of_ble_eq_true rfl)
theorem x179_156 : Ev L xs ρ 179 156 [l0, l1, l2, l3, some (.int x)] st σ r ↔ Ev L xs ρ 179 158 [l0, l1, l2, l3, some (.int x)] (.int x :: st) σ r := ev_iload cm_179 dX11_number_156 rfl
theorem x179_158 : Ev L xs ρ 179 158 [l0, l1, l2, l3, l4] [.int x] σ r ↔ r = (some (.int x), σ) := ev_reti cm_179 dX11_number_158 rfl
theorem cm_180 : mcd 180 = cX11_isOwnHere := rfl
theorem em_180 : Em L xs 180 [.ref a] σ r ↔ Ev L xs 2 180 0 [some (.ref a), none] [] σ r := Iff.rfl
theorem x180_0 : Ev L xs ρ 180 0 [some (.ref a), l1] st σ r ↔ Ev L xs ρ 180 1 [some (.ref a), l1] (.ref a :: st) σ r := ev_aload_n cm_180 dX11_isOwnHere_0 rfl rfl
theorem x180_1 : Ev L xs ρ 180 1 [some (.ref a), l1] st σ r ↔ Ev L xs ρ 180 2 [some (.ref a), l1] (.ref a :: st) σ r := ev_aload_n cm_180 dX11_isOwnHere_1 rfl rfl
theorem x180_2 : Ev L xs ρ 180 2 [l0, l1] (.ref a :: st) (n, I, Lm, Rm) r ↔ (a < n ∧ shp a = (0, 11)) ∧ Ev L xs ρ 180 5 [l0, l1] (rfv (Rm a 9) :: st) (n, I, Lm, Rm) r := ev_gtR cm_180 dX11_isOwnHere_2 rfl rfl
theorem x180_5 : Ev L xs 2 180 5 [l0, l1] (.ref b :: .ref a :: []) (n, I, Lm, Rm) r ↔ (a < n ∧ shp a = (0, 11)) ∧ ∃ v n2 I2 L2 R2, Em L xs 174 [.ref a, .ref b] (n, I, Lm, Rm) (v, n2, I2, L2, R2) ∧ Ev L xs 2 180 8 [l0, l1] (v.toList ++ []) (n2, I2, L2, R2) r := ev_cV cm_180 [.ref b] dX11_isOwnHere_5 rfl rfl rfl rfl (Nat.le_of_ble_eq_true rfl) (rka_lt rfl (by decide)) (Nat.le_of_ble_eq_true rfl)
theorem x180_8 : Ev L xs ρ 180 8 [l0, l1] (.int x :: st) σ r ↔ if x = 0 then Ev L xs ρ 180 11 [l0, l1] st σ r else Ev L xs ρ 180 66 [l0, l1] st σ r := ev_ifne cm_180 dX11_isOwnHere_8 (by decide)
theorem x180_11 : Ev L xs ρ 180 11 [some (.ref a), l1] st σ r ↔ Ev L xs ρ 180 12 [some (.ref a), l1] (.ref a :: st) σ r := ev_aload_n cm_180 dX11_isOwnHere_11 rfl rfl
theorem x180_12 : Ev L xs ρ 180 12 [some (.ref a), l1] st σ r ↔ Ev L xs ρ 180 13 [some (.ref a), l1] (.ref a :: st) σ r := ev_aload_n cm_180 dX11_isOwnHere_12 rfl rfl
theorem x180_13 : Ev L xs ρ 180 13 [l0, l1] (.ref a :: st) (n, I, Lm, Rm) r ↔ (a < n ∧ shp a = (0, 11)) ∧ Ev L xs ρ 180 16 [l0, l1] (rfv (Rm a 10) :: st) (n, I, Lm, Rm) r := ev_gtR cm_180 dX11_isOwnHere_13 rfl rfl
theorem x180_16 : Ev L xs 2 180 16 [l0, l1] (.ref b :: .ref a :: []) (n, I, Lm, Rm) r ↔ (a < n ∧ shp a = (0, 11)) ∧ ∃ v n2 I2 L2 R2, Em L xs 174 [.ref a, .ref b] (n, I, Lm, Rm) (v, n2, I2, L2, R2) ∧ Ev L xs 2 180 19 [l0, l1] (v.toList ++ []) (n2, I2, L2, R2) r := ev_cV cm_180 [.ref b] dX11_isOwnHere_16 rfl rfl rfl rfl (Nat.le_of_ble_eq_true rfl) (rka_lt rfl (by decide)) (Nat.le_of_ble_eq_true rfl)
theorem x180_19 : Ev L xs ρ 180 19 [l0, l1] (.int x :: st) σ r ↔ if x = 0 then Ev L xs ρ 180 22 [l0, l1] st σ r else Ev L xs ρ 180 66 [l0, l1] st σ r := ev_ifne cm_180 dX11_isOwnHere_19 (by decide)
theorem x180_22 : Ev L xs ρ 180 22 [some (.ref a), l1] st σ r ↔ Ev L xs ρ 180 23 [some (.ref a), l1] (.ref a :: st) σ r := ev_aload_n cm_180 dX11_isOwnHere_22 rfl rfl
theorem x180_23 : Ev L xs ρ 180 23 [some (.ref a), l1] st σ r ↔ Ev L xs ρ 180 24 [some (.ref a), l1] (.ref a :: st) σ r := ev_aload_n cm_180 dX11_isOwnHere_23 rfl rfl
theorem x180_24 : Ev L xs ρ 180 24 [l0, l1] (.ref a :: st) (n, I, Lm, Rm) r ↔ (a < n ∧ shp a = (0, 11)) ∧ Ev L xs ρ 180 27 [l0, l1] (rfv (Rm a 11) :: st) (n, I, Lm, Rm) r := ev_gtR cm_180 dX11_isOwnHere_24 rfl rfl
theorem x180_27 : Ev L xs 2 180 27 [l0, l1] (.ref b :: .ref a :: []) (n, I, Lm, Rm) r ↔ (a < n ∧ shp a = (0, 11)) ∧ ∃ v n2 I2 L2 R2, Em L xs 174 [.ref a, .ref b] (n, I, Lm, Rm) (v, n2, I2, L2, R2) ∧ Ev L xs 2 180 30 [l0, l1] (v.toList ++ []) (n2, I2, L2, R2) r := ev_cV cm_180 [.ref b] dX11_isOwnHere_27 rfl rfl rfl rfl (Nat.le_of_ble_eq_true rfl) (rka_lt rfl (by decide)) (Nat.le_of_ble_eq_true rfl)
theorem x180_30 : Ev L xs ρ 180 30 [l0, l1] (.int x :: st) σ r ↔ if x = 0 then Ev L xs ρ 180 33 [l0, l1] st σ r else Ev L xs ρ 180 66 [l0, l1] st σ r := ev_ifne cm_180 dX11_isOwnHere_30 (by decide)
theorem x180_33 : Ev L xs ρ 180 33 [some (.ref a), l1] st σ r ↔ Ev L xs ρ 180 34 [some (.ref a), l1] (.ref a :: st) σ r := ev_aload_n cm_180 dX11_isOwnHere_33 rfl rfl
theorem x180_34 : Ev L xs ρ 180 34 [some (.ref a), l1] st σ r ↔ Ev L xs ρ 180 35 [some (.ref a), l1] (.ref a :: st) σ r := ev_aload_n cm_180 dX11_isOwnHere_34 rfl rfl
theorem x180_35 : Ev L xs ρ 180 35 [l0, l1] (.ref a :: st) (n, I, Lm, Rm) r ↔ (a < n ∧ shp a = (0, 11)) ∧ Ev L xs ρ 180 38 [l0, l1] (rfv (Rm a 12) :: st) (n, I, Lm, Rm) r := ev_gtR cm_180 dX11_isOwnHere_35 rfl rfl
theorem x180_38 : Ev L xs 2 180 38 [l0, l1] (.ref b :: .ref a :: []) (n, I, Lm, Rm) r ↔ (a < n ∧ shp a = (0, 11)) ∧ ∃ v n2 I2 L2 R2, Em L xs 174 [.ref a, .ref b] (n, I, Lm, Rm) (v, n2, I2, L2, R2) ∧ Ev L xs 2 180 41 [l0, l1] (v.toList ++ []) (n2, I2, L2, R2) r := ev_cV cm_180 [.ref b] dX11_isOwnHere_38 rfl rfl rfl rfl (Nat.le_of_ble_eq_true rfl) (rka_lt rfl (by decide)) (Nat.le_of_ble_eq_true rfl)
theorem x180_41 : Ev L xs ρ 180 41 [l0, l1] (.int x :: st) σ r ↔ if x = 0 then Ev L xs ρ 180 44 [l0, l1] st σ r else Ev L xs ρ 180 66 [l0, l1] st σ r := ev_ifne cm_180 dX11_isOwnHere_41 (by decide)
theorem x180_44 : Ev L xs ρ 180 44 [some (.ref a), l1] st σ r ↔ Ev L xs ρ 180 45 [some (.ref a), l1] (.ref a :: st) σ r := ev_aload_n cm_180 dX11_isOwnHere_44 rfl rfl
theorem x180_45 : Ev L xs ρ 180 45 [some (.ref a), l1] st σ r ↔ Ev L xs ρ 180 46 [some (.ref a), l1] (.ref a :: st) σ r := ev_aload_n cm_180 dX11_isOwnHere_45 rfl rfl
theorem x180_46 : Ev L xs ρ 180 46 [l0, l1] (.ref a :: st) (n, I, Lm, Rm) r ↔ (a < n ∧ shp a = (0, 11)) ∧ Ev L xs ρ 180 49 [l0, l1] (rfv (Rm a 13) :: st) (n, I, Lm, Rm) r := ev_gtR cm_180 dX11_isOwnHere_46 rfl rfl
theorem x180_49 : Ev L xs 2 180 49 [l0, l1] (.ref b :: .ref a :: []) (n, I, Lm, Rm) r ↔ (a < n ∧ shp a = (0, 11)) ∧ ∃ v n2 I2 L2 R2, Em L xs 174 [.ref a, .ref b] (n, I, Lm, Rm) (v, n2, I2, L2, R2) ∧ Ev L xs 2 180 52 [l0, l1] (v.toList ++ []) (n2, I2, L2, R2) r := ev_cV cm_180 [.ref b] dX11_isOwnHere_49 rfl rfl rfl rfl (Nat.le_of_ble_eq_true rfl) (rka_lt rfl (by decide)) (Nat.le_of_ble_eq_true rfl)
theorem x180_52 : Ev L xs ρ 180 52 [l0, l1] (.int x :: st) σ r ↔ if x = 0 then Ev L xs ρ 180 55 [l0, l1] st σ r else Ev L xs ρ 180 66 [l0, l1] st σ r := ev_ifne cm_180 dX11_isOwnHere_52 (by decide)
theorem x180_55 : Ev L xs ρ 180 55 [some (.ref a), l1] st σ r ↔ Ev L xs ρ 180 56 [some (.ref a), l1] (.ref a :: st) σ r := ev_aload_n cm_180 dX11_isOwnHere_55 rfl rfl
theorem x180_56 : Ev L xs ρ 180 56 [some (.ref a), l1] st σ r ↔ Ev L xs ρ 180 57 [some (.ref a), l1] (.ref a :: st) σ r := ev_aload_n cm_180 dX11_isOwnHere_56 rfl rfl
theorem x180_57 : Ev L xs ρ 180 57 [l0, l1] (.ref a :: st) (n, I, Lm, Rm) r ↔ (a < n ∧ shp a = (0, 11)) ∧ Ev L xs ρ 180 60 [l0, l1] (rfv (Rm a 14) :: st) (n, I, Lm, Rm) r := ev_gtR cm_180 dX11_isOwnHere_57 rfl rfl
theorem x180_60 : Ev L xs 2 180 60 [l0, l1] (.ref b :: .ref a :: []) (n, I, Lm, Rm) r ↔ (a < n ∧ shp a = (0, 11)) ∧ ∃ v n2 I2 L2 R2, Em L xs 174 [.ref a, .ref b] (n, I, Lm, Rm) (v, n2, I2, L2, R2) ∧ Ev L xs 2 180 63 [l0, l1] (v.toList ++ []) (n2, I2, L2, R2) r := ev_cV cm_180 [.ref b] dX11_isOwnHere_60 rfl rfl rfl rfl (Nat.le_of_ble_eq_true rfl) (rka_lt rfl (by decide)) (Nat.le_of_ble_eq_true rfl)
theorem x180_63 : Ev L xs ρ 180 63 [l0, l1] (.int x :: st) σ r ↔ if x = 0 then Ev L xs ρ 180 70 [l0, l1] st σ r else Ev L xs ρ 180 66 [l0, l1] st σ r := ev_ifeq cm_180 dX11_isOwnHere_63 (by decide)
theorem x180_66 : Ev L xs ρ 180 66 [l0, l1] st σ r ↔ Ev L xs ρ 180 67 [l0, l1] (.int (1) :: st) σ r := ev_iconst cm_180 dX11_isOwnHere_66 (by decide)
theorem x180_67 : Ev L xs ρ 180 67 [l0, l1] st σ r ↔ Ev L xs ρ 180 71 [l0, l1] st σ r := ev_goto cm_180 dX11_isOwnHere_67 (by decide)
theorem x180_70 : Ev L xs ρ 180 70 [l0, l1] st σ r ↔ Ev L xs ρ 180 71 [l0, l1] (.int (0) :: st) σ r := ev_iconst cm_180 dX11_isOwnHere_70 (by decide)
theorem x180_71 : Ev L xs ρ 180 71 [l0, l1] (.int x :: st) σ r ↔ Ev L xs ρ 180 72 [l0, some (.int x)] st σ r := ev_istore_n cm_180 dX11_isOwnHere_71 rfl (Nat.le_of_ble_eq_true rfl)
theorem x180_72 : Ev L xs ρ 180 72 [l0, some (.int x)] st σ r ↔ Ev L xs ρ 180 73 [l0, some (.int x)] (.int x :: st) σ r := ev_iload_n cm_180 dX11_isOwnHere_72 rfl rfl
theorem x180_73 : Ev L xs ρ 180 73 [l0, l1] (.int x :: st) σ r ↔ if x = 0 then Ev L xs ρ 180 76 [l0, l1] st σ r else Ev L xs ρ 180 142 [l0, l1] st σ r := ev_ifne cm_180 dX11_isOwnHere_73 (by decide)
theorem x180_76 : Ev L xs ρ 180 76 [some (.ref a), l1] st σ r ↔ Ev L xs ρ 180 77 [some (.ref a), l1] (.ref a :: st) σ r := ev_aload_n cm_180 dX11_isOwnHere_76 rfl rfl
theorem x180_77 : Ev L xs ρ 180 77 [some (.ref a), l1] st σ r ↔ Ev L xs ρ 180 78 [some (.ref a), l1] (.ref a :: st) σ r := ev_aload_n cm_180 dX11_isOwnHere_77 rfl rfl
theorem x180_78 : Ev L xs ρ 180 78 [l0, l1] (.ref a :: st) (n, I, Lm, Rm) r ↔ (a < n ∧ shp a = (0, 11)) ∧ Ev L xs ρ 180 81 [l0, l1] (rfv (Rm a 15) :: st) (n, I, Lm, Rm) r := ev_gtR cm_180 dX11_isOwnHere_78 rfl rfl
theorem x180_81 : Ev L xs 2 180 81 [l0, l1] (.ref b :: .ref a :: []) (n, I, Lm, Rm) r ↔ (a < n ∧ shp a = (0, 11)) ∧ ∃ v n2 I2 L2 R2, Em L xs 174 [.ref a, .ref b] (n, I, Lm, Rm) (v, n2, I2, L2, R2) ∧ Ev L xs 2 180 84 [l0, l1] (v.toList ++ []) (n2, I2, L2, R2) r := ev_cV cm_180 [.ref b] dX11_isOwnHere_81 rfl rfl rfl rfl (Nat.le_of_ble_eq_true rfl) (rka_lt rfl (by decide)) (Nat.le_of_ble_eq_true rfl)
theorem x180_84 : Ev L xs ρ 180 84 [l0, l1] (.int x :: st) σ r ↔ if x = 0 then Ev L xs ρ 180 87 [l0, l1] st σ r else Ev L xs ρ 180 142 [l0, l1] st σ r := ev_ifne cm_180 dX11_isOwnHere_84 (by decide)
theorem x180_87 : Ev L xs ρ 180 87 [some (.ref a), l1] st σ r ↔ Ev L xs ρ 180 88 [some (.ref a), l1] (.ref a :: st) σ r := ev_aload_n cm_180 dX11_isOwnHere_87 rfl rfl
theorem x180_88 : Ev L xs ρ 180 88 [some (.ref a), l1] st σ r ↔ Ev L xs ρ 180 89 [some (.ref a), l1] (.ref a :: st) σ r := ev_aload_n cm_180 dX11_isOwnHere_88 rfl rfl
theorem x180_89 : Ev L xs ρ 180 89 [l0, l1] (.ref a :: st) (n, I, Lm, Rm) r ↔ (a < n ∧ shp a = (0, 11)) ∧ Ev L xs ρ 180 92 [l0, l1] (rfv (Rm a 16) :: st) (n, I, Lm, Rm) r := ev_gtR cm_180 dX11_isOwnHere_89 rfl rfl
theorem x180_92 : Ev L xs 2 180 92 [l0, l1] (.ref b :: .ref a :: []) (n, I, Lm, Rm) r ↔ (a < n ∧ shp a = (0, 11)) ∧ ∃ v n2 I2 L2 R2, Em L xs 174 [.ref a, .ref b] (n, I, Lm, Rm) (v, n2, I2, L2, R2) ∧ Ev L xs 2 180 95 [l0, l1] (v.toList ++ []) (n2, I2, L2, R2) r := ev_cV cm_180 [.ref b] dX11_isOwnHere_92 rfl rfl rfl rfl (Nat.le_of_ble_eq_true rfl) (rka_lt rfl (by decide)) (Nat.le_of_ble_eq_true rfl)
theorem x180_95 : Ev L xs ρ 180 95 [l0, l1] (.int x :: st) σ r ↔ if x = 0 then Ev L xs ρ 180 98 [l0, l1] st σ r else Ev L xs ρ 180 142 [l0, l1] st σ r := ev_ifne cm_180 dX11_isOwnHere_95 (by decide)
theorem x180_98 : Ev L xs ρ 180 98 [some (.ref a), l1] st σ r ↔ Ev L xs ρ 180 99 [some (.ref a), l1] (.ref a :: st) σ r := ev_aload_n cm_180 dX11_isOwnHere_98 rfl rfl
theorem x180_99 : Ev L xs ρ 180 99 [some (.ref a), l1] st σ r ↔ Ev L xs ρ 180 100 [some (.ref a), l1] (.ref a :: st) σ r := ev_aload_n cm_180 dX11_isOwnHere_99 rfl rfl
theorem x180_100 : Ev L xs ρ 180 100 [l0, l1] (.ref a :: st) (n, I, Lm, Rm) r ↔ (a < n ∧ shp a = (0, 11)) ∧ Ev L xs ρ 180 103 [l0, l1] (rfv (Rm a 17) :: st) (n, I, Lm, Rm) r := ev_gtR cm_180 dX11_isOwnHere_100 rfl rfl
theorem x180_103 : Ev L xs 2 180 103 [l0, l1] (.ref b :: .ref a :: []) (n, I, Lm, Rm) r ↔ (a < n ∧ shp a = (0, 11)) ∧ ∃ v n2 I2 L2 R2, Em L xs 174 [.ref a, .ref b] (n, I, Lm, Rm) (v, n2, I2, L2, R2) ∧ Ev L xs 2 180 106 [l0, l1] (v.toList ++ []) (n2, I2, L2, R2) r := ev_cV cm_180 [.ref b] dX11_isOwnHere_103 rfl rfl rfl rfl (Nat.le_of_ble_eq_true rfl) (rka_lt rfl (by decide)) (Nat.le_of_ble_eq_true rfl)
theorem x180_106 : Ev L xs ρ 180 106 [l0, l1] (.int x :: st) σ r ↔ if x = 0 then Ev L xs ρ 180 109 [l0, l1] st σ r else Ev L xs ρ 180 142 [l0, l1] st σ r := ev_ifne cm_180 dX11_isOwnHere_106 (by decide)
theorem x180_109 : Ev L xs ρ 180 109 [some (.ref a), l1] st σ r ↔ Ev L xs ρ 180 110 [some (.ref a), l1] (.ref a :: st) σ r := ev_aload_n cm_180 dX11_isOwnHere_109 rfl rfl
theorem x180_110 : Ev L xs ρ 180 110 [some (.ref a), l1] st σ r ↔ Ev L xs ρ 180 111 [some (.ref a), l1] (.ref a :: st) σ r := ev_aload_n cm_180 dX11_isOwnHere_110 rfl rfl
theorem x180_111 : Ev L xs ρ 180 111 [l0, l1] (.ref a :: st) (n, I, Lm, Rm) r ↔ (a < n ∧ shp a = (0, 11)) ∧ Ev L xs ρ 180 114 [l0, l1] (rfv (Rm a 18) :: st) (n, I, Lm, Rm) r := ev_gtR cm_180 dX11_isOwnHere_111 rfl rfl
theorem x180_114 : Ev L xs 2 180 114 [l0, l1] (.ref b :: .ref a :: []) (n, I, Lm, Rm) r ↔ (a < n ∧ shp a = (0, 11)) ∧ ∃ v n2 I2 L2 R2, Em L xs 174 [.ref a, .ref b] (n, I, Lm, Rm) (v, n2, I2, L2, R2) ∧ Ev L xs 2 180 117 [l0, l1] (v.toList ++ []) (n2, I2, L2, R2) r := ev_cV cm_180 [.ref b] dX11_isOwnHere_114 rfl rfl rfl rfl (Nat.le_of_ble_eq_true rfl) (rka_lt rfl (by decide)) (Nat.le_of_ble_eq_true rfl)
theorem x180_117 : Ev L xs ρ 180 117 [l0, l1] (.int x :: st) σ r ↔ if x = 0 then Ev L xs ρ 180 120 [l0, l1] st σ r else Ev L xs ρ 180 142 [l0, l1] st σ r := ev_ifne cm_180 dX11_isOwnHere_117 (by decide)
theorem x180_120 : Ev L xs ρ 180 120 [some (.ref a), l1] st σ r ↔ Ev L xs ρ 180 121 [some (.ref a), l1] (.ref a :: st) σ r := ev_aload_n cm_180 dX11_isOwnHere_120 rfl rfl
theorem x180_121 : Ev L xs ρ 180 121 [some (.ref a), l1] st σ r ↔ Ev L xs ρ 180 122 [some (.ref a), l1] (.ref a :: st) σ r := ev_aload_n cm_180 dX11_isOwnHere_121 rfl rfl
theorem x180_122 : Ev L xs ρ 180 122 [l0, l1] (.ref a :: st) (n, I, Lm, Rm) r ↔ (a < n ∧ shp a = (0, 11)) ∧ Ev L xs ρ 180 125 [l0, l1] (rfv (Rm a 19) :: st) (n, I, Lm, Rm) r := ev_gtR cm_180 dX11_isOwnHere_122 rfl rfl
theorem x180_125 : Ev L xs 2 180 125 [l0, l1] (.ref b :: .ref a :: []) (n, I, Lm, Rm) r ↔ (a < n ∧ shp a = (0, 11)) ∧ ∃ v n2 I2 L2 R2, Em L xs 174 [.ref a, .ref b] (n, I, Lm, Rm) (v, n2, I2, L2, R2) ∧ Ev L xs 2 180 128 [l0, l1] (v.toList ++ []) (n2, I2, L2, R2) r := ev_cV cm_180 [.ref b] dX11_isOwnHere_125 rfl rfl rfl rfl (Nat.le_of_ble_eq_true rfl) (rka_lt rfl (by decide)) (Nat.le_of_ble_eq_true rfl)
theorem x180_128 : Ev L xs ρ 180 128 [l0, l1] (.int x :: st) σ r ↔ if x = 0 then Ev L xs ρ 180 131 [l0, l1] st σ r else Ev L xs ρ 180 142 [l0, l1] st σ r := ev_ifne cm_180 dX11_isOwnHere_128 (by decide)
theorem x180_131 : Ev L xs ρ 180 131 [some (.ref a), l1] st σ r ↔ Ev L xs ρ 180 132 [some (.ref a), l1] (.ref a :: st) σ r := ev_aload_n cm_180 dX11_isOwnHere_131 rfl rfl
theorem x180_132 : Ev L xs ρ 180 132 [some (.ref a), l1] st σ r ↔ Ev L xs ρ 180 133 [some (.ref a), l1] (.ref a :: st) σ r := ev_aload_n cm_180 dX11_isOwnHere_132 rfl rfl
theorem x180_133 : Ev L xs ρ 180 133 [l0, l1] (.ref a :: st) (n, I, Lm, Rm) r ↔ (a < n ∧ shp a = (0, 11)) ∧ Ev L xs ρ 180 136 [l0, l1] (rfv (Rm a 20) :: st) (n, I, Lm, Rm) r := ev_gtR cm_180 dX11_isOwnHere_133 rfl rfl
theorem x180_136 : Ev L xs 2 180 136 [l0, l1] (.ref b :: .ref a :: []) (n, I, Lm, Rm) r ↔ (a < n ∧ shp a = (0, 11)) ∧ ∃ v n2 I2 L2 R2, Em L xs 174 [.ref a, .ref b] (n, I, Lm, Rm) (v, n2, I2, L2, R2) ∧ Ev L xs 2 180 139 [l0, l1] (v.toList ++ []) (n2, I2, L2, R2) r := ev_cV cm_180 [.ref b] dX11_isOwnHere_136 rfl rfl rfl rfl (Nat.le_of_ble_eq_true rfl) (rka_lt rfl (by decide)) (Nat.le_of_ble_eq_true rfl)
theorem x180_139 : Ev L xs ρ 180 139 [l0, l1] (.int x :: st) σ r ↔ if x = 0 then Ev L xs ρ 180 146 [l0, l1] st σ r else Ev L xs ρ 180 142 [l0, l1] st σ r := ev_ifeq cm_180 dX11_isOwnHere_139 (by decide)
theorem x180_142 : Ev L xs ρ 180 142 [l0, l1] st σ r ↔ Ev L xs ρ 180 143 [l0, l1] (.int (1) :: st) σ r := ev_iconst cm_180 dX11_isOwnHere_142 (by decide)
theorem x180_143 : Ev L xs ρ 180 143 [l0, l1] st σ r ↔ Ev L xs ρ 180 147 [l0, l1] st σ r := ev_goto cm_180 dX11_isOwnHere_143 (by decide)
theorem x180_146 : Ev L xs ρ 180 146 [l0, l1] st σ r ↔ Ev L xs ρ 180 147 [l0, l1] (.int (0) :: st) σ r := ev_iconst cm_180 dX11_isOwnHere_146 (by decide)
theorem x180_147 : Ev L xs ρ 180 147 [l0, l1] (.int x :: st) σ r ↔ Ev L xs ρ 180 148 [l0, some (.int x)] st σ r := ev_istore_n cm_180 dX11_isOwnHere_147 rfl (Nat.le_of_ble_eq_true rfl)
theorem x180_148 : Ev L xs ρ 180 148 [l0, some (.int x)] st σ r ↔ Ev L xs ρ 180 149 [l0, some (.int x)] (.int x :: st) σ r := ev_iload_n cm_180 dX11_isOwnHere_148 rfl rfl
theorem x180_149 : Ev L xs ρ 180 149 [l0, l1] (.int x :: st) σ r ↔ if x = 0 then Ev L xs ρ 180 152 [l0, l1] st σ r else Ev L xs ρ 180 218 [l0, l1] st σ r := ev_ifne cm_180 dX11_isOwnHere_149 (by decide)
theorem x180_152 : Ev L xs ρ 180 152 [some (.ref a), l1] st σ r ↔ Ev L xs ρ 180 153 [some (.ref a), l1] (.ref a :: st) σ r := ev_aload_n cm_180 dX11_isOwnHere_152 rfl rfl
theorem x180_153 : Ev L xs ρ 180 153 [some (.ref a), l1] st σ r ↔ Ev L xs ρ 180 154 [some (.ref a), l1] (.ref a :: st) σ r := ev_aload_n cm_180 dX11_isOwnHere_153 rfl rfl
theorem x180_154 : Ev L xs ρ 180 154 [l0, l1] (.ref a :: st) (n, I, Lm, Rm) r ↔ (a < n ∧ shp a = (0, 11)) ∧ Ev L xs ρ 180 157 [l0, l1] (rfv (Rm a 21) :: st) (n, I, Lm, Rm) r := ev_gtR cm_180 dX11_isOwnHere_154 rfl rfl
theorem x180_157 : Ev L xs 2 180 157 [l0, l1] (.ref b :: .ref a :: []) (n, I, Lm, Rm) r ↔ (a < n ∧ shp a = (0, 11)) ∧ ∃ v n2 I2 L2 R2, Em L xs 174 [.ref a, .ref b] (n, I, Lm, Rm) (v, n2, I2, L2, R2) ∧ Ev L xs 2 180 160 [l0, l1] (v.toList ++ []) (n2, I2, L2, R2) r := ev_cV cm_180 [.ref b] dX11_isOwnHere_157 rfl rfl rfl rfl (Nat.le_of_ble_eq_true rfl) (rka_lt rfl (by decide)) (Nat.le_of_ble_eq_true rfl)
theorem x180_160 : Ev L xs ρ 180 160 [l0, l1] (.int x :: st) σ r ↔ if x = 0 then Ev L xs ρ 180 163 [l0, l1] st σ r else Ev L xs ρ 180 218 [l0, l1] st σ r := ev_ifne cm_180 dX11_isOwnHere_160 (by decide)
theorem x180_163 : Ev L xs ρ 180 163 [some (.ref a), l1] st σ r ↔ Ev L xs ρ 180 164 [some (.ref a), l1] (.ref a :: st) σ r := ev_aload_n cm_180 dX11_isOwnHere_163 rfl rfl
theorem x180_164 : Ev L xs ρ 180 164 [some (.ref a), l1] st σ r ↔ Ev L xs ρ 180 165 [some (.ref a), l1] (.ref a :: st) σ r := ev_aload_n cm_180 dX11_isOwnHere_164 rfl rfl
theorem x180_165 : Ev L xs ρ 180 165 [l0, l1] (.ref a :: st) (n, I, Lm, Rm) r ↔ (a < n ∧ shp a = (0, 11)) ∧ Ev L xs ρ 180 168 [l0, l1] (rfv (Rm a 22) :: st) (n, I, Lm, Rm) r := ev_gtR cm_180 dX11_isOwnHere_165 rfl rfl
theorem x180_168 : Ev L xs 2 180 168 [l0, l1] (.ref b :: .ref a :: []) (n, I, Lm, Rm) r ↔ (a < n ∧ shp a = (0, 11)) ∧ ∃ v n2 I2 L2 R2, Em L xs 174 [.ref a, .ref b] (n, I, Lm, Rm) (v, n2, I2, L2, R2) ∧ Ev L xs 2 180 171 [l0, l1] (v.toList ++ []) (n2, I2, L2, R2) r := ev_cV cm_180 [.ref b] dX11_isOwnHere_168 rfl rfl rfl rfl (Nat.le_of_ble_eq_true rfl) (rka_lt rfl (by decide)) (Nat.le_of_ble_eq_true rfl)
theorem x180_171 : Ev L xs ρ 180 171 [l0, l1] (.int x :: st) σ r ↔ if x = 0 then Ev L xs ρ 180 174 [l0, l1] st σ r else Ev L xs ρ 180 218 [l0, l1] st σ r := ev_ifne cm_180 dX11_isOwnHere_171 (by decide)
theorem x180_174 : Ev L xs ρ 180 174 [some (.ref a), l1] st σ r ↔ Ev L xs ρ 180 175 [some (.ref a), l1] (.ref a :: st) σ r := ev_aload_n cm_180 dX11_isOwnHere_174 rfl rfl
theorem x180_175 : Ev L xs ρ 180 175 [some (.ref a), l1] st σ r ↔ Ev L xs ρ 180 176 [some (.ref a), l1] (.ref a :: st) σ r := ev_aload_n cm_180 dX11_isOwnHere_175 rfl rfl
theorem x180_176 : Ev L xs ρ 180 176 [l0, l1] (.ref a :: st) (n, I, Lm, Rm) r ↔ (a < n ∧ shp a = (0, 11)) ∧ Ev L xs ρ 180 179 [l0, l1] (rfv (Rm a 23) :: st) (n, I, Lm, Rm) r := ev_gtR cm_180 dX11_isOwnHere_176 rfl rfl
theorem x180_179 : Ev L xs 2 180 179 [l0, l1] (.ref b :: .ref a :: []) (n, I, Lm, Rm) r ↔ (a < n ∧ shp a = (0, 11)) ∧ ∃ v n2 I2 L2 R2, Em L xs 174 [.ref a, .ref b] (n, I, Lm, Rm) (v, n2, I2, L2, R2) ∧ Ev L xs 2 180 182 [l0, l1] (v.toList ++ []) (n2, I2, L2, R2) r := ev_cV cm_180 [.ref b] dX11_isOwnHere_179 rfl rfl rfl rfl (Nat.le_of_ble_eq_true rfl) (rka_lt rfl (by decide)) (Nat.le_of_ble_eq_true rfl)
theorem x180_182 : Ev L xs ρ 180 182 [l0, l1] (.int x :: st) σ r ↔ if x = 0 then Ev L xs ρ 180 185 [l0, l1] st σ r else Ev L xs ρ 180 218 [l0, l1] st σ r := ev_ifne cm_180 dX11_isOwnHere_182 (by decide)
theorem x180_185 : Ev L xs ρ 180 185 [some (.ref a), l1] st σ r ↔ Ev L xs ρ 180 186 [some (.ref a), l1] (.ref a :: st) σ r := ev_aload_n cm_180 dX11_isOwnHere_185 rfl rfl
theorem x180_186 : Ev L xs ρ 180 186 [some (.ref a), l1] st σ r ↔ Ev L xs ρ 180 187 [some (.ref a), l1] (.ref a :: st) σ r := ev_aload_n cm_180 dX11_isOwnHere_186 rfl rfl
theorem x180_187 : Ev L xs ρ 180 187 [l0, l1] (.ref a :: st) (n, I, Lm, Rm) r ↔ (a < n ∧ shp a = (0, 11)) ∧ Ev L xs ρ 180 190 [l0, l1] (rfv (Rm a 24) :: st) (n, I, Lm, Rm) r := ev_gtR cm_180 dX11_isOwnHere_187 rfl rfl
theorem x180_190 : Ev L xs 2 180 190 [l0, l1] (.ref b :: .ref a :: []) (n, I, Lm, Rm) r ↔ (a < n ∧ shp a = (0, 11)) ∧ ∃ v n2 I2 L2 R2, Em L xs 174 [.ref a, .ref b] (n, I, Lm, Rm) (v, n2, I2, L2, R2) ∧ Ev L xs 2 180 193 [l0, l1] (v.toList ++ []) (n2, I2, L2, R2) r := ev_cV cm_180 [.ref b] dX11_isOwnHere_190 rfl rfl rfl rfl (Nat.le_of_ble_eq_true rfl) (rka_lt rfl (by decide)) (Nat.le_of_ble_eq_true rfl)
theorem x180_193 : Ev L xs ρ 180 193 [l0, l1] (.int x :: st) σ r ↔ if x = 0 then Ev L xs ρ 180 196 [l0, l1] st σ r else Ev L xs ρ 180 218 [l0, l1] st σ r := ev_ifne cm_180 dX11_isOwnHere_193 (by decide)
theorem x180_196 : Ev L xs ρ 180 196 [some (.ref a), l1] st σ r ↔ Ev L xs ρ 180 197 [some (.ref a), l1] (.ref a :: st) σ r := ev_aload_n cm_180 dX11_isOwnHere_196 rfl rfl
theorem x180_197 : Ev L xs ρ 180 197 [some (.ref a), l1] st σ r ↔ Ev L xs ρ 180 198 [some (.ref a), l1] (.ref a :: st) σ r := ev_aload_n cm_180 dX11_isOwnHere_197 rfl rfl
theorem x180_198 : Ev L xs ρ 180 198 [l0, l1] (.ref a :: st) (n, I, Lm, Rm) r ↔ (a < n ∧ shp a = (0, 11)) ∧ Ev L xs ρ 180 201 [l0, l1] (rfv (Rm a 25) :: st) (n, I, Lm, Rm) r := ev_gtR cm_180 dX11_isOwnHere_198 rfl rfl
theorem x180_201 : Ev L xs 2 180 201 [l0, l1] (.ref b :: .ref a :: []) (n, I, Lm, Rm) r ↔ (a < n ∧ shp a = (0, 11)) ∧ ∃ v n2 I2 L2 R2, Em L xs 174 [.ref a, .ref b] (n, I, Lm, Rm) (v, n2, I2, L2, R2) ∧ Ev L xs 2 180 204 [l0, l1] (v.toList ++ []) (n2, I2, L2, R2) r := ev_cV cm_180 [.ref b] dX11_isOwnHere_201 rfl rfl rfl rfl (Nat.le_of_ble_eq_true rfl) (rka_lt rfl (by decide)) (Nat.le_of_ble_eq_true rfl)
theorem x180_204 : Ev L xs ρ 180 204 [l0, l1] (.int x :: st) σ r ↔ if x = 0 then Ev L xs ρ 180 207 [l0, l1] st σ r else Ev L xs ρ 180 218 [l0, l1] st σ r := ev_ifne cm_180 dX11_isOwnHere_204 (by decide)
theorem x180_207 : Ev L xs ρ 180 207 [some (.ref a), l1] st σ r ↔ Ev L xs ρ 180 208 [some (.ref a), l1] (.ref a :: st) σ r := ev_aload_n cm_180 dX11_isOwnHere_207 rfl rfl
theorem x180_208 : Ev L xs ρ 180 208 [some (.ref a), l1] st σ r ↔ Ev L xs ρ 180 209 [some (.ref a), l1] (.ref a :: st) σ r := ev_aload_n cm_180 dX11_isOwnHere_208 rfl rfl
theorem x180_209 : Ev L xs ρ 180 209 [l0, l1] (.ref a :: st) (n, I, Lm, Rm) r ↔ (a < n ∧ shp a = (0, 11)) ∧ Ev L xs ρ 180 212 [l0, l1] (rfv (Rm a 26) :: st) (n, I, Lm, Rm) r := ev_gtR cm_180 dX11_isOwnHere_209 rfl rfl
theorem x180_212 : Ev L xs 2 180 212 [l0, l1] (.ref b :: .ref a :: []) (n, I, Lm, Rm) r ↔ (a < n ∧ shp a = (0, 11)) ∧ ∃ v n2 I2 L2 R2, Em L xs 174 [.ref a, .ref b] (n, I, Lm, Rm) (v, n2, I2, L2, R2) ∧ Ev L xs 2 180 215 [l0, l1] (v.toList ++ []) (n2, I2, L2, R2) r := ev_cV cm_180 [.ref b] dX11_isOwnHere_212 rfl rfl rfl rfl (Nat.le_of_ble_eq_true rfl) (rka_lt rfl (by decide)) (Nat.le_of_ble_eq_true rfl)
theorem x180_215 : Ev L xs ρ 180 215 [l0, l1] (.int x :: st) σ r ↔ if x = 0 then Ev L xs ρ 180 222 [l0, l1] st σ r else Ev L xs ρ 180 218 [l0, l1] st σ r := ev_ifeq cm_180 dX11_isOwnHere_215 (by decide)
theorem x180_218 : Ev L xs ρ 180 218 [l0, l1] st σ r ↔ Ev L xs ρ 180 219 [l0, l1] (.int (1) :: st) σ r := ev_iconst cm_180 dX11_isOwnHere_218 (by decide)
theorem x180_219 : Ev L xs ρ 180 219 [l0, l1] st σ r ↔ Ev L xs ρ 180 223 [l0, l1] st σ r := ev_goto cm_180 dX11_isOwnHere_219 (by decide)
theorem x180_222 : Ev L xs ρ 180 222 [l0, l1] st σ r ↔ Ev L xs ρ 180 223 [l0, l1] (.int (0) :: st) σ r := ev_iconst cm_180 dX11_isOwnHere_222 (by decide)
theorem x180_223 : Ev L xs ρ 180 223 [l0, l1] (.int x :: st) σ r ↔ Ev L xs ρ 180 224 [l0, some (.int x)] st σ r := ev_istore_n cm_180 dX11_isOwnHere_223 rfl (Nat.le_of_ble_eq_true rfl)
theorem x180_224 : Ev L xs ρ 180 224 [l0, some (.int x)] st σ r ↔ Ev L xs ρ 180 225 [l0, some (.int x)] (.int x :: st) σ r := ev_iload_n cm_180 dX11_isOwnHere_224 rfl rfl
theorem x180_225 : Ev L xs ρ 180 225 [l0, l1] (.int x :: st) σ r ↔ if x = 0 then Ev L xs ρ 180 228 [l0, l1] st σ r else Ev L xs ρ 180 294 [l0, l1] st σ r := ev_ifne cm_180 dX11_isOwnHere_225 (by decide)
theorem x180_228 : Ev L xs ρ 180 228 [some (.ref a), l1] st σ r ↔ Ev L xs ρ 180 229 [some (.ref a), l1] (.ref a :: st) σ r := ev_aload_n cm_180 dX11_isOwnHere_228 rfl rfl
theorem x180_229 : Ev L xs ρ 180 229 [some (.ref a), l1] st σ r ↔ Ev L xs ρ 180 230 [some (.ref a), l1] (.ref a :: st) σ r := ev_aload_n cm_180 dX11_isOwnHere_229 rfl rfl
theorem x180_230 : Ev L xs ρ 180 230 [l0, l1] (.ref a :: st) (n, I, Lm, Rm) r ↔ (a < n ∧ shp a = (0, 11)) ∧ Ev L xs ρ 180 233 [l0, l1] (rfv (Rm a 27) :: st) (n, I, Lm, Rm) r := ev_gtR cm_180 dX11_isOwnHere_230 rfl rfl
theorem x180_233 : Ev L xs 2 180 233 [l0, l1] (.ref b :: .ref a :: []) (n, I, Lm, Rm) r ↔ (a < n ∧ shp a = (0, 11)) ∧ ∃ v n2 I2 L2 R2, Em L xs 174 [.ref a, .ref b] (n, I, Lm, Rm) (v, n2, I2, L2, R2) ∧ Ev L xs 2 180 236 [l0, l1] (v.toList ++ []) (n2, I2, L2, R2) r := ev_cV cm_180 [.ref b] dX11_isOwnHere_233 rfl rfl rfl rfl (Nat.le_of_ble_eq_true rfl) (rka_lt rfl (by decide)) (Nat.le_of_ble_eq_true rfl)
theorem x180_236 : Ev L xs ρ 180 236 [l0, l1] (.int x :: st) σ r ↔ if x = 0 then Ev L xs ρ 180 239 [l0, l1] st σ r else Ev L xs ρ 180 294 [l0, l1] st σ r := ev_ifne cm_180 dX11_isOwnHere_236 (by decide)
theorem x180_239 : Ev L xs ρ 180 239 [some (.ref a), l1] st σ r ↔ Ev L xs ρ 180 240 [some (.ref a), l1] (.ref a :: st) σ r := ev_aload_n cm_180 dX11_isOwnHere_239 rfl rfl
theorem x180_240 : Ev L xs ρ 180 240 [some (.ref a), l1] st σ r ↔ Ev L xs ρ 180 241 [some (.ref a), l1] (.ref a :: st) σ r := ev_aload_n cm_180 dX11_isOwnHere_240 rfl rfl
theorem x180_241 : Ev L xs ρ 180 241 [l0, l1] (.ref a :: st) (n, I, Lm, Rm) r ↔ (a < n ∧ shp a = (0, 11)) ∧ Ev L xs ρ 180 244 [l0, l1] (rfv (Rm a 28) :: st) (n, I, Lm, Rm) r := ev_gtR cm_180 dX11_isOwnHere_241 rfl rfl
theorem x180_244 : Ev L xs 2 180 244 [l0, l1] (.ref b :: .ref a :: []) (n, I, Lm, Rm) r ↔ (a < n ∧ shp a = (0, 11)) ∧ ∃ v n2 I2 L2 R2, Em L xs 174 [.ref a, .ref b] (n, I, Lm, Rm) (v, n2, I2, L2, R2) ∧ Ev L xs 2 180 247 [l0, l1] (v.toList ++ []) (n2, I2, L2, R2) r := ev_cV cm_180 [.ref b] dX11_isOwnHere_244 rfl rfl rfl rfl (Nat.le_of_ble_eq_true rfl) (rka_lt rfl (by decide)) (Nat.le_of_ble_eq_true rfl)
theorem x180_247 : Ev L xs ρ 180 247 [l0, l1] (.int x :: st) σ r ↔ if x = 0 then Ev L xs ρ 180 250 [l0, l1] st σ r else Ev L xs ρ 180 294 [l0, l1] st σ r := ev_ifne cm_180 dX11_isOwnHere_247 (by decide)
theorem x180_250 : Ev L xs ρ 180 250 [some (.ref a), l1] st σ r ↔ Ev L xs ρ 180 251 [some (.ref a), l1] (.ref a :: st) σ r := ev_aload_n cm_180 dX11_isOwnHere_250 rfl rfl
theorem x180_251 : Ev L xs ρ 180 251 [some (.ref a), l1] st σ r ↔ Ev L xs ρ 180 252 [some (.ref a), l1] (.ref a :: st) σ r := ev_aload_n cm_180 dX11_isOwnHere_251 rfl rfl
theorem x180_252 : Ev L xs ρ 180 252 [l0, l1] (.ref a :: st) (n, I, Lm, Rm) r ↔ (a < n ∧ shp a = (0, 11)) ∧ Ev L xs ρ 180 255 [l0, l1] (rfv (Rm a 29) :: st) (n, I, Lm, Rm) r := ev_gtR cm_180 dX11_isOwnHere_252 rfl rfl
theorem x180_255 : Ev L xs 2 180 255 [l0, l1] (.ref b :: .ref a :: []) (n, I, Lm, Rm) r ↔ (a < n ∧ shp a = (0, 11)) ∧ ∃ v n2 I2 L2 R2, Em L xs 174 [.ref a, .ref b] (n, I, Lm, Rm) (v, n2, I2, L2, R2) ∧ Ev L xs 2 180 258 [l0, l1] (v.toList ++ []) (n2, I2, L2, R2) r := ev_cV cm_180 [.ref b] dX11_isOwnHere_255 rfl rfl rfl rfl (Nat.le_of_ble_eq_true rfl) (rka_lt rfl (by decide)) (Nat.le_of_ble_eq_true rfl)
theorem x180_258 : Ev L xs ρ 180 258 [l0, l1] (.int x :: st) σ r ↔ if x = 0 then Ev L xs ρ 180 261 [l0, l1] st σ r else Ev L xs ρ 180 294 [l0, l1] st σ r := ev_ifne cm_180 dX11_isOwnHere_258 (by decide)
theorem x180_261 : Ev L xs ρ 180 261 [some (.ref a), l1] st σ r ↔ Ev L xs ρ 180 262 [some (.ref a), l1] (.ref a :: st) σ r := ev_aload_n cm_180 dX11_isOwnHere_261 rfl rfl
theorem x180_262 : Ev L xs ρ 180 262 [some (.ref a), l1] st σ r ↔ Ev L xs ρ 180 263 [some (.ref a), l1] (.ref a :: st) σ r := ev_aload_n cm_180 dX11_isOwnHere_262 rfl rfl
theorem x180_263 : Ev L xs ρ 180 263 [l0, l1] (.ref a :: st) (n, I, Lm, Rm) r ↔ (a < n ∧ shp a = (0, 11)) ∧ Ev L xs ρ 180 266 [l0, l1] (rfv (Rm a 30) :: st) (n, I, Lm, Rm) r := ev_gtR cm_180 dX11_isOwnHere_263 rfl rfl
theorem x180_266 : Ev L xs 2 180 266 [l0, l1] (.ref b :: .ref a :: []) (n, I, Lm, Rm) r ↔ (a < n ∧ shp a = (0, 11)) ∧ ∃ v n2 I2 L2 R2, Em L xs 174 [.ref a, .ref b] (n, I, Lm, Rm) (v, n2, I2, L2, R2) ∧ Ev L xs 2 180 269 [l0, l1] (v.toList ++ []) (n2, I2, L2, R2) r := ev_cV cm_180 [.ref b] dX11_isOwnHere_266 rfl rfl rfl rfl (Nat.le_of_ble_eq_true rfl) (rka_lt rfl (by decide)) (Nat.le_of_ble_eq_true rfl)
theorem x180_269 : Ev L xs ρ 180 269 [l0, l1] (.int x :: st) σ r ↔ if x = 0 then Ev L xs ρ 180 272 [l0, l1] st σ r else Ev L xs ρ 180 294 [l0, l1] st σ r := ev_ifne cm_180 dX11_isOwnHere_269 (by decide)
theorem x180_272 : Ev L xs ρ 180 272 [some (.ref a), l1] st σ r ↔ Ev L xs ρ 180 273 [some (.ref a), l1] (.ref a :: st) σ r := ev_aload_n cm_180 dX11_isOwnHere_272 rfl rfl
theorem x180_273 : Ev L xs ρ 180 273 [some (.ref a), l1] st σ r ↔ Ev L xs ρ 180 274 [some (.ref a), l1] (.ref a :: st) σ r := ev_aload_n cm_180 dX11_isOwnHere_273 rfl rfl
theorem x180_274 : Ev L xs ρ 180 274 [l0, l1] (.ref a :: st) (n, I, Lm, Rm) r ↔ (a < n ∧ shp a = (0, 11)) ∧ Ev L xs ρ 180 277 [l0, l1] (rfv (Rm a 31) :: st) (n, I, Lm, Rm) r := ev_gtR cm_180 dX11_isOwnHere_274 rfl rfl
theorem x180_277 : Ev L xs 2 180 277 [l0, l1] (.ref b :: .ref a :: []) (n, I, Lm, Rm) r ↔ (a < n ∧ shp a = (0, 11)) ∧ ∃ v n2 I2 L2 R2, Em L xs 174 [.ref a, .ref b] (n, I, Lm, Rm) (v, n2, I2, L2, R2) ∧ Ev L xs 2 180 280 [l0, l1] (v.toList ++ []) (n2, I2, L2, R2) r := ev_cV cm_180 [.ref b] dX11_isOwnHere_277 rfl rfl rfl rfl (Nat.le_of_ble_eq_true rfl) (rka_lt rfl (by decide)) (Nat.le_of_ble_eq_true rfl)
theorem x180_280 : Ev L xs ρ 180 280 [l0, l1] (.int x :: st) σ r ↔ if x = 0 then Ev L xs ρ 180 283 [l0, l1] st σ r else Ev L xs ρ 180 294 [l0, l1] st σ r := ev_ifne cm_180 dX11_isOwnHere_280 (by decide)
theorem x180_283 : Ev L xs ρ 180 283 [some (.ref a), l1] st σ r ↔ Ev L xs ρ 180 284 [some (.ref a), l1] (.ref a :: st) σ r := ev_aload_n cm_180 dX11_isOwnHere_283 rfl rfl
theorem x180_284 : Ev L xs ρ 180 284 [some (.ref a), l1] st σ r ↔ Ev L xs ρ 180 285 [some (.ref a), l1] (.ref a :: st) σ r := ev_aload_n cm_180 dX11_isOwnHere_284 rfl rfl
theorem x180_285 : Ev L xs ρ 180 285 [l0, l1] (.ref a :: st) (n, I, Lm, Rm) r ↔ (a < n ∧ shp a = (0, 11)) ∧ Ev L xs ρ 180 288 [l0, l1] (rfv (Rm a 32) :: st) (n, I, Lm, Rm) r := ev_gtR cm_180 dX11_isOwnHere_285 rfl rfl
theorem x180_288 : Ev L xs 2 180 288 [l0, l1] (.ref b :: .ref a :: []) (n, I, Lm, Rm) r ↔ (a < n ∧ shp a = (0, 11)) ∧ ∃ v n2 I2 L2 R2, Em L xs 174 [.ref a, .ref b] (n, I, Lm, Rm) (v, n2, I2, L2, R2) ∧ Ev L xs 2 180 291 [l0, l1] (v.toList ++ []) (n2, I2, L2, R2) r := ev_cV cm_180 [.ref b] dX11_isOwnHere_288 rfl rfl rfl rfl (Nat.le_of_ble_eq_true rfl) (rka_lt rfl (by decide)) (Nat.le_of_ble_eq_true rfl)
theorem x180_291 : Ev L xs ρ 180 291 [l0, l1] (.int x :: st) σ r ↔ if x = 0 then Ev L xs ρ 180 298 [l0, l1] st σ r else Ev L xs ρ 180 294 [l0, l1] st σ r := ev_ifeq cm_180 dX11_isOwnHere_291 (by decide)
theorem x180_294 : Ev L xs ρ 180 294 [l0, l1] st σ r ↔ Ev L xs ρ 180 295 [l0, l1] (.int (1) :: st) σ r := ev_iconst cm_180 dX11_isOwnHere_294 (by decide)
theorem x180_295 : Ev L xs ρ 180 295 [l0, l1] st σ r ↔ Ev L xs ρ 180 299 [l0, l1] st σ r := ev_goto cm_180 dX11_isOwnHere_295 (by decide)
theorem x180_298 : Ev L xs ρ 180 298 [l0, l1] st σ r ↔ Ev L xs ρ 180 299 [l0, l1] (.int (0) :: st) σ r := ev_iconst cm_180 dX11_isOwnHere_298 (by decide)
theorem x180_299 : Ev L xs ρ 180 299 [l0, l1] (.int x :: st) σ r ↔ Ev L xs ρ 180 300 [l0, some (.int x)] st σ r := ev_istore_n cm_180 dX11_isOwnHere_299 rfl (Nat.le_of_ble_eq_true rfl)
theorem x180_300 : Ev L xs ρ 180 300 [l0, some (.int x)] st σ r ↔ Ev L xs ρ 180 301 [l0, some (.int x)] (.int x :: st) σ r := ev_iload_n cm_180 dX11_isOwnHere_300 rfl rfl
theorem x180_301 : Ev L xs ρ 180 301 [l0, l1] (.int x :: st) σ r ↔ if x = 0 then Ev L xs ρ 180 304 [l0, l1] st σ r else Ev L xs ρ 180 370 [l0, l1] st σ r := ev_ifne cm_180 dX11_isOwnHere_301 (by decide)
theorem x180_304 : Ev L xs ρ 180 304 [some (.ref a), l1] st σ r ↔ Ev L xs ρ 180 305 [some (.ref a), l1] (.ref a :: st) σ r := ev_aload_n cm_180 dX11_isOwnHere_304 rfl rfl
theorem x180_305 : Ev L xs ρ 180 305 [some (.ref a), l1] st σ r ↔ Ev L xs ρ 180 306 [some (.ref a), l1] (.ref a :: st) σ r := ev_aload_n cm_180 dX11_isOwnHere_305 rfl rfl
theorem x180_306 : Ev L xs ρ 180 306 [l0, l1] (.ref a :: st) (n, I, Lm, Rm) r ↔ (a < n ∧ shp a = (0, 11)) ∧ Ev L xs ρ 180 309 [l0, l1] (rfv (Rm a 33) :: st) (n, I, Lm, Rm) r := ev_gtR cm_180 dX11_isOwnHere_306 rfl rfl
theorem x180_309 : Ev L xs 2 180 309 [l0, l1] (.ref b :: .ref a :: []) (n, I, Lm, Rm) r ↔ (a < n ∧ shp a = (0, 11)) ∧ ∃ v n2 I2 L2 R2, Em L xs 174 [.ref a, .ref b] (n, I, Lm, Rm) (v, n2, I2, L2, R2) ∧ Ev L xs 2 180 312 [l0, l1] (v.toList ++ []) (n2, I2, L2, R2) r := ev_cV cm_180 [.ref b] dX11_isOwnHere_309 rfl rfl rfl rfl (Nat.le_of_ble_eq_true rfl) (rka_lt rfl (by decide)) (Nat.le_of_ble_eq_true rfl)
theorem x180_312 : Ev L xs ρ 180 312 [l0, l1] (.int x :: st) σ r ↔ if x = 0 then Ev L xs ρ 180 315 [l0, l1] st σ r else Ev L xs ρ 180 370 [l0, l1] st σ r := ev_ifne cm_180 dX11_isOwnHere_312 (by decide)
theorem x180_315 : Ev L xs ρ 180 315 [some (.ref a), l1] st σ r ↔ Ev L xs ρ 180 316 [some (.ref a), l1] (.ref a :: st) σ r := ev_aload_n cm_180 dX11_isOwnHere_315 rfl rfl
theorem x180_316 : Ev L xs ρ 180 316 [some (.ref a), l1] st σ r ↔ Ev L xs ρ 180 317 [some (.ref a), l1] (.ref a :: st) σ r := ev_aload_n cm_180 dX11_isOwnHere_316 rfl rfl
theorem x180_317 : Ev L xs ρ 180 317 [l0, l1] (.ref a :: st) (n, I, Lm, Rm) r ↔ (a < n ∧ shp a = (0, 11)) ∧ Ev L xs ρ 180 320 [l0, l1] (rfv (Rm a 34) :: st) (n, I, Lm, Rm) r := ev_gtR cm_180 dX11_isOwnHere_317 rfl rfl
theorem x180_320 : Ev L xs 2 180 320 [l0, l1] (.ref b :: .ref a :: []) (n, I, Lm, Rm) r ↔ (a < n ∧ shp a = (0, 11)) ∧ ∃ v n2 I2 L2 R2, Em L xs 174 [.ref a, .ref b] (n, I, Lm, Rm) (v, n2, I2, L2, R2) ∧ Ev L xs 2 180 323 [l0, l1] (v.toList ++ []) (n2, I2, L2, R2) r := ev_cV cm_180 [.ref b] dX11_isOwnHere_320 rfl rfl rfl rfl (Nat.le_of_ble_eq_true rfl) (rka_lt rfl (by decide)) (Nat.le_of_ble_eq_true rfl)
theorem x180_323 : Ev L xs ρ 180 323 [l0, l1] (.int x :: st) σ r ↔ if x = 0 then Ev L xs ρ 180 326 [l0, l1] st σ r else Ev L xs ρ 180 370 [l0, l1] st σ r := ev_ifne cm_180 dX11_isOwnHere_323 (by decide)
theorem x180_326 : Ev L xs ρ 180 326 [some (.ref a), l1] st σ r ↔ Ev L xs ρ 180 327 [some (.ref a), l1] (.ref a :: st) σ r := ev_aload_n cm_180 dX11_isOwnHere_326 rfl rfl
theorem x180_327 : Ev L xs ρ 180 327 [some (.ref a), l1] st σ r ↔ Ev L xs ρ 180 328 [some (.ref a), l1] (.ref a :: st) σ r := ev_aload_n cm_180 dX11_isOwnHere_327 rfl rfl
theorem x180_328 : Ev L xs ρ 180 328 [l0, l1] (.ref a :: st) (n, I, Lm, Rm) r ↔ (a < n ∧ shp a = (0, 11)) ∧ Ev L xs ρ 180 331 [l0, l1] (rfv (Rm a 35) :: st) (n, I, Lm, Rm) r := ev_gtR cm_180 dX11_isOwnHere_328 rfl rfl
theorem x180_331 : Ev L xs 2 180 331 [l0, l1] (.ref b :: .ref a :: []) (n, I, Lm, Rm) r ↔ (a < n ∧ shp a = (0, 11)) ∧ ∃ v n2 I2 L2 R2, Em L xs 174 [.ref a, .ref b] (n, I, Lm, Rm) (v, n2, I2, L2, R2) ∧ Ev L xs 2 180 334 [l0, l1] (v.toList ++ []) (n2, I2, L2, R2) r := ev_cV cm_180 [.ref b] dX11_isOwnHere_331 rfl rfl rfl rfl (Nat.le_of_ble_eq_true rfl) (rka_lt rfl (by decide)) (Nat.le_of_ble_eq_true rfl)
theorem x180_334 : Ev L xs ρ 180 334 [l0, l1] (.int x :: st) σ r ↔ if x = 0 then Ev L xs ρ 180 337 [l0, l1] st σ r else Ev L xs ρ 180 370 [l0, l1] st σ r := ev_ifne cm_180 dX11_isOwnHere_334 (by decide)
theorem x180_337 : Ev L xs ρ 180 337 [some (.ref a), l1] st σ r ↔ Ev L xs ρ 180 338 [some (.ref a), l1] (.ref a :: st) σ r := ev_aload_n cm_180 dX11_isOwnHere_337 rfl rfl
theorem x180_338 : Ev L xs ρ 180 338 [some (.ref a), l1] st σ r ↔ Ev L xs ρ 180 339 [some (.ref a), l1] (.ref a :: st) σ r := ev_aload_n cm_180 dX11_isOwnHere_338 rfl rfl
theorem x180_339 : Ev L xs ρ 180 339 [l0, l1] (.ref a :: st) (n, I, Lm, Rm) r ↔ (a < n ∧ shp a = (0, 11)) ∧ Ev L xs ρ 180 342 [l0, l1] (rfv (Rm a 36) :: st) (n, I, Lm, Rm) r := ev_gtR cm_180 dX11_isOwnHere_339 rfl rfl
theorem x180_342 : Ev L xs 2 180 342 [l0, l1] (.ref b :: .ref a :: []) (n, I, Lm, Rm) r ↔ (a < n ∧ shp a = (0, 11)) ∧ ∃ v n2 I2 L2 R2, Em L xs 174 [.ref a, .ref b] (n, I, Lm, Rm) (v, n2, I2, L2, R2) ∧ Ev L xs 2 180 345 [l0, l1] (v.toList ++ []) (n2, I2, L2, R2) r := ev_cV cm_180 [.ref b] dX11_isOwnHere_342 rfl rfl rfl rfl (Nat.le_of_ble_eq_true rfl) (rka_lt rfl (by decide)) (Nat.le_of_ble_eq_true rfl)
theorem x180_345 : Ev L xs ρ 180 345 [l0, l1] (.int x :: st) σ r ↔ if x = 0 then Ev L xs ρ 180 348 [l0, l1] st σ r else Ev L xs ρ 180 370 [l0, l1] st σ r := ev_ifne cm_180 dX11_isOwnHere_345 (by decide)
theorem x180_348 : Ev L xs ρ 180 348 [some (.ref a), l1] st σ r ↔ Ev L xs ρ 180 349 [some (.ref a), l1] (.ref a :: st) σ r := ev_aload_n cm_180 dX11_isOwnHere_348 rfl rfl
theorem x180_349 : Ev L xs ρ 180 349 [some (.ref a), l1] st σ r ↔ Ev L xs ρ 180 350 [some (.ref a), l1] (.ref a :: st) σ r := ev_aload_n cm_180 dX11_isOwnHere_349 rfl rfl
theorem x180_350 : Ev L xs ρ 180 350 [l0, l1] (.ref a :: st) (n, I, Lm, Rm) r ↔ (a < n ∧ shp a = (0, 11)) ∧ Ev L xs ρ 180 353 [l0, l1] (rfv (Rm a 37) :: st) (n, I, Lm, Rm) r := ev_gtR cm_180 dX11_isOwnHere_350 rfl rfl
theorem x180_353 : Ev L xs 2 180 353 [l0, l1] (.ref b :: .ref a :: []) (n, I, Lm, Rm) r ↔ (a < n ∧ shp a = (0, 11)) ∧ ∃ v n2 I2 L2 R2, Em L xs 174 [.ref a, .ref b] (n, I, Lm, Rm) (v, n2, I2, L2, R2) ∧ Ev L xs 2 180 356 [l0, l1] (v.toList ++ []) (n2, I2, L2, R2) r := ev_cV cm_180 [.ref b] dX11_isOwnHere_353 rfl rfl rfl rfl (Nat.le_of_ble_eq_true rfl) (rka_lt rfl (by decide)) (Nat.le_of_ble_eq_true rfl)
theorem x180_356 : Ev L xs ρ 180 356 [l0, l1] (.int x :: st) σ r ↔ if x = 0 then Ev L xs ρ 180 359 [l0, l1] st σ r else Ev L xs ρ 180 370 [l0, l1] st σ r := ev_ifne cm_180 dX11_isOwnHere_356 (by decide)
theorem x180_359 : Ev L xs ρ 180 359 [some (.ref a), l1] st σ r ↔ Ev L xs ρ 180 360 [some (.ref a), l1] (.ref a :: st) σ r := ev_aload_n cm_180 dX11_isOwnHere_359 rfl rfl
theorem x180_360 : Ev L xs ρ 180 360 [some (.ref a), l1] st σ r ↔ Ev L xs ρ 180 361 [some (.ref a), l1] (.ref a :: st) σ r := ev_aload_n cm_180 dX11_isOwnHere_360 rfl rfl
theorem x180_361 : Ev L xs ρ 180 361 [l0, l1] (.ref a :: st) (n, I, Lm, Rm) r ↔ (a < n ∧ shp a = (0, 11)) ∧ Ev L xs ρ 180 364 [l0, l1] (rfv (Rm a 38) :: st) (n, I, Lm, Rm) r := ev_gtR cm_180 dX11_isOwnHere_361 rfl rfl
theorem x180_364 : Ev L xs 2 180 364 [l0, l1] (.ref b :: .ref a :: []) (n, I, Lm, Rm) r ↔ (a < n ∧ shp a = (0, 11)) ∧ ∃ v n2 I2 L2 R2, Em L xs 174 [.ref a, .ref b] (n, I, Lm, Rm) (v, n2, I2, L2, R2) ∧ Ev L xs 2 180 367 [l0, l1] (v.toList ++ []) (n2, I2, L2, R2) r := ev_cV cm_180 [.ref b] dX11_isOwnHere_364 rfl rfl rfl rfl (Nat.le_of_ble_eq_true rfl) (rka_lt rfl (by decide)) (Nat.le_of_ble_eq_true rfl)
theorem x180_367 : Ev L xs ρ 180 367 [l0, l1] (.int x :: st) σ r ↔ if x = 0 then Ev L xs ρ 180 374 [l0, l1] st σ r else Ev L xs ρ 180 370 [l0, l1] st σ r := ev_ifeq cm_180 dX11_isOwnHere_367 (by decide)
theorem x180_370 : Ev L xs ρ 180 370 [l0, l1] st σ r ↔ Ev L xs ρ 180 371 [l0, l1] (.int (1) :: st) σ r := ev_iconst cm_180 dX11_isOwnHere_370 (by decide)
theorem x180_371 : Ev L xs ρ 180 371 [l0, l1] st σ r ↔ Ev L xs ρ 180 375 [l0, l1] st σ r := ev_goto cm_180 dX11_isOwnHere_371 (by decide)
theorem x180_374 : Ev L xs ρ 180 374 [l0, l1] st σ r ↔ Ev L xs ρ 180 375 [l0, l1] (.int (0) :: st) σ r := ev_iconst cm_180 dX11_isOwnHere_374 (by decide)
theorem x180_375 : Ev L xs ρ 180 375 [l0, l1] (.int x :: st) σ r ↔ Ev L xs ρ 180 376 [l0, some (.int x)] st σ r := ev_istore_n cm_180 dX11_isOwnHere_375 rfl (Nat.le_of_ble_eq_true rfl)
theorem x180_376 : Ev L xs ρ 180 376 [l0, some (.int x)] st σ r ↔ Ev L xs ρ 180 377 [l0, some (.int x)] (.int x :: st) σ r := ev_iload_n cm_180 dX11_isOwnHere_376 rfl rfl
theorem x180_377 : Ev L xs ρ 180 377 [l0, l1] (.int x :: st) σ r ↔ if x = 0 then Ev L xs ρ 180 380 [l0, l1] st σ r else Ev L xs ρ 180 413 [l0, l1] st σ r := ev_ifne cm_180 dX11_isOwnHere_377 (by decide)
theorem x180_380 : Ev L xs ρ 180 380 [some (.ref a), l1] st σ r ↔ Ev L xs ρ 180 381 [some (.ref a), l1] (.ref a :: st) σ r := ev_aload_n cm_180 dX11_isOwnHere_380 rfl rfl
theorem x180_381 : Ev L xs ρ 180 381 [some (.ref a), l1] st σ r ↔ Ev L xs ρ 180 382 [some (.ref a), l1] (.ref a :: st) σ r := ev_aload_n cm_180 dX11_isOwnHere_381 rfl rfl
theorem x180_382 : Ev L xs ρ 180 382 [l0, l1] (.ref a :: st) (n, I, Lm, Rm) r ↔ (a < n ∧ shp a = (0, 11)) ∧ Ev L xs ρ 180 385 [l0, l1] (rfv (Rm a 39) :: st) (n, I, Lm, Rm) r := ev_gtR cm_180 dX11_isOwnHere_382 rfl rfl
theorem x180_385 : Ev L xs 2 180 385 [l0, l1] (.ref b :: .ref a :: []) (n, I, Lm, Rm) r ↔ (a < n ∧ shp a = (0, 11)) ∧ ∃ v n2 I2 L2 R2, Em L xs 174 [.ref a, .ref b] (n, I, Lm, Rm) (v, n2, I2, L2, R2) ∧ Ev L xs 2 180 388 [l0, l1] (v.toList ++ []) (n2, I2, L2, R2) r := ev_cV cm_180 [.ref b] dX11_isOwnHere_385 rfl rfl rfl rfl (Nat.le_of_ble_eq_true rfl) (rka_lt rfl (by decide)) (Nat.le_of_ble_eq_true rfl)
theorem x180_388 : Ev L xs ρ 180 388 [l0, l1] (.int x :: st) σ r ↔ if x = 0 then Ev L xs ρ 180 391 [l0, l1] st σ r else Ev L xs ρ 180 413 [l0, l1] st σ r := ev_ifne cm_180 dX11_isOwnHere_388 (by decide)
theorem x180_391 : Ev L xs ρ 180 391 [some (.ref a), l1] st σ r ↔ Ev L xs ρ 180 392 [some (.ref a), l1] (.ref a :: st) σ r := ev_aload_n cm_180 dX11_isOwnHere_391 rfl rfl
theorem x180_392 : Ev L xs ρ 180 392 [some (.ref a), l1] st σ r ↔ Ev L xs ρ 180 393 [some (.ref a), l1] (.ref a :: st) σ r := ev_aload_n cm_180 dX11_isOwnHere_392 rfl rfl
theorem x180_393 : Ev L xs ρ 180 393 [l0, l1] (.ref a :: st) (n, I, Lm, Rm) r ↔ (a < n ∧ shp a = (0, 11)) ∧ Ev L xs ρ 180 396 [l0, l1] (rfv (Rm a 40) :: st) (n, I, Lm, Rm) r := ev_gtR cm_180 dX11_isOwnHere_393 rfl rfl
theorem x180_396 : Ev L xs 2 180 396 [l0, l1] (.ref b :: .ref a :: []) (n, I, Lm, Rm) r ↔ (a < n ∧ shp a = (0, 11)) ∧ ∃ v n2 I2 L2 R2, Em L xs 174 [.ref a, .ref b] (n, I, Lm, Rm) (v, n2, I2, L2, R2) ∧ Ev L xs 2 180 399 [l0, l1] (v.toList ++ []) (n2, I2, L2, R2) r := ev_cV cm_180 [.ref b] dX11_isOwnHere_396 rfl rfl rfl rfl (Nat.le_of_ble_eq_true rfl) (rka_lt rfl (by decide)) (Nat.le_of_ble_eq_true rfl)
theorem x180_399 : Ev L xs ρ 180 399 [l0, l1] (.int x :: st) σ r ↔ if x = 0 then Ev L xs ρ 180 402 [l0, l1] st σ r else Ev L xs ρ 180 413 [l0, l1] st σ r := ev_ifne cm_180 dX11_isOwnHere_399 (by decide)
theorem x180_402 : Ev L xs ρ 180 402 [some (.ref a), l1] st σ r ↔ Ev L xs ρ 180 403 [some (.ref a), l1] (.ref a :: st) σ r := ev_aload_n cm_180 dX11_isOwnHere_402 rfl rfl
theorem x180_403 : Ev L xs ρ 180 403 [some (.ref a), l1] st σ r ↔ Ev L xs ρ 180 404 [some (.ref a), l1] (.ref a :: st) σ r := ev_aload_n cm_180 dX11_isOwnHere_403 rfl rfl
theorem x180_404 : Ev L xs ρ 180 404 [l0, l1] (.ref a :: st) (n, I, Lm, Rm) r ↔ (a < n ∧ shp a = (0, 11)) ∧ Ev L xs ρ 180 407 [l0, l1] (rfv (Rm a 41) :: st) (n, I, Lm, Rm) r := ev_gtR cm_180 dX11_isOwnHere_404 rfl rfl
theorem x180_407 : Ev L xs 2 180 407 [l0, l1] (.ref b :: .ref a :: []) (n, I, Lm, Rm) r ↔ (a < n ∧ shp a = (0, 11)) ∧ ∃ v n2 I2 L2 R2, Em L xs 174 [.ref a, .ref b] (n, I, Lm, Rm) (v, n2, I2, L2, R2) ∧ Ev L xs 2 180 410 [l0, l1] (v.toList ++ []) (n2, I2, L2, R2) r := ev_cV cm_180 [.ref b] dX11_isOwnHere_407 rfl rfl rfl rfl (Nat.le_of_ble_eq_true rfl) (rka_lt rfl (by decide)) (Nat.le_of_ble_eq_true rfl)
theorem x180_410 : Ev L xs ρ 180 410 [l0, l1] (.int x :: st) σ r ↔ if x = 0 then Ev L xs ρ 180 417 [l0, l1] st σ r else Ev L xs ρ 180 413 [l0, l1] st σ r := ev_ifeq cm_180 dX11_isOwnHere_410 (by decide)
theorem x180_413 : Ev L xs ρ 180 413 [l0, l1] st σ r ↔ Ev L xs ρ 180 414 [l0, l1] (.int (1) :: st) σ r := ev_iconst cm_180 dX11_isOwnHere_413 (by decide)
theorem x180_414 : Ev L xs ρ 180 414 [l0, l1] st σ r ↔ Ev L xs ρ 180 418 [l0, l1] st σ r := ev_goto cm_180 dX11_isOwnHere_414 (by decide)
theorem x180_417 : Ev L xs ρ 180 417 [l0, l1] st σ r ↔ Ev L xs ρ 180 418 [l0, l1] (.int (0) :: st) σ r := ev_iconst cm_180 dX11_isOwnHere_417 (by decide)
theorem x180_418 : Ev L xs ρ 180 418 [l0, l1] (.int x :: st) σ r ↔ Ev L xs ρ 180 419 [l0, some (.int x)] st σ r := ev_istore_n cm_180 dX11_isOwnHere_418 rfl (Nat.le_of_ble_eq_true rfl)
theorem x180_419 : Ev L xs ρ 180 419 [l0, some (.int x)] st σ r ↔ Ev L xs ρ 180 420 [l0, some (.int x)] (.int x :: st) σ r := ev_iload_n cm_180 dX11_isOwnHere_419 rfl rfl
theorem x180_420 : Ev L xs ρ 180 420 [l0, l1] [.int x] σ r ↔ (x = 0 ∨ x = 1) ∧ r = (some (.int x), σ) := ev_retz cm_180 dX11_isOwnHere_420 rfl
theorem cm_181 : mcd 181 = cX11_name := rfl
theorem em_181 : Em L xs 181 [.ref a] σ r ↔ Ev L xs 3 181 0 [some (.ref a), none, none] [] σ r := Iff.rfl
theorem x181_0 : Ev L xs ρ 181 0 [some (.ref a), l1, l2] st σ r ↔ Ev L xs ρ 181 1 [some (.ref a), l1, l2] (.ref a :: st) σ r := ev_aload_n cm_181 dX11_name_0 rfl rfl
theorem x181_1 : Ev L xs ρ 181 1 [l0, l1, l2] (.ref a :: st) (n, I, Lm, Rm) r ↔ (a < n ∧ shp a = (0, 11)) ∧ Ev L xs ρ 181 4 [l0, l1, l2] (.int (I a 5) :: st) (n, I, Lm, Rm) r := ev_gtI cm_181 dX11_name_1 rfl rfl
theorem x181_4 : Ev L xs ρ 181 4 [l0, l1, l2] (.int x :: st) σ r ↔ if x = 0 then Ev L xs ρ 181 9 [l0, l1, l2] st σ r else Ev L xs ρ 181 7 [l0, l1, l2] st σ r := ev_ifeq cm_181 dX11_name_4 (by decide)
theorem x181_7 : Ev L xs ρ 181 7 [l0, l1, l2] st σ r ↔ Ev L xs ρ 181 8 [l0, l1, l2] (.long (0) :: st) σ r := ev_lconst cm_181 dX11_name_7 (by decide)
theorem x181_8 : Ev L xs ρ 181 8 [l0, l1, l2] [.long u] σ r ↔ r = (some (.long u), σ) := ev_retl cm_181 dX11_name_8 rfl
theorem x181_9 : Ev L xs ρ 181 9 [some (.ref a), l1, l2] st σ r ↔ Ev L xs ρ 181 10 [some (.ref a), l1, l2] (.ref a :: st) σ r := ev_aload_n cm_181 dX11_name_9 rfl rfl
theorem x181_10 : Ev L xs 3 181 10 [l0, l1, l2] (.ref a :: []) (n, I, Lm, Rm) r ↔ (a < n ∧ shp a = (0, 11)) ∧ ∃ v n2 I2 L2 R2, Em L xs 173 [.ref a] (n, I, Lm, Rm) (v, n2, I2, L2, R2) ∧ Ev L xs 3 181 13 [l0, l1, l2] (v.toList ++ []) (n2, I2, L2, R2) r := ev_cV cm_181 [] dX11_name_10 rfl rfl rfl rfl (Nat.le_of_ble_eq_true rfl) (rka_lt rfl (by decide)) (Nat.le_of_ble_eq_true rfl)
theorem x181_13 : Ev L xs 3 181 13 [l0, l1, l2] (.int x :: []) σ r ↔ ∃ v n2 I2 L2 R2, Em L xs 171 [.int x] σ (v, n2, I2, L2, R2) ∧ Ev L xs 3 181 16 [l0, l1, l2] (v.toList ++ []) (n2, I2, L2, R2) r := ev_cS cm_181 [.int x] dX11_name_13 rfl rfl rfl (Nat.le_of_ble_eq_true rfl) (rka_lt rfl (by decide)) (Nat.le_of_ble_eq_true rfl)
theorem x181_16 : Ev L xs ρ 181 16 [l0, l1, l2] (.int x :: st) σ r ↔ if x = 0 then Ev L xs ρ 181 37 [l0, l1, l2] st σ r else Ev L xs ρ 181 19 [l0, l1, l2] st σ r := ev_ifeq cm_181 dX11_name_16 (by decide)
theorem x181_19 : Ev L xs ρ 181 19 [some (.ref a), l1, l2] st σ r ↔ Ev L xs ρ 181 20 [some (.ref a), l1, l2] (.ref a :: st) σ r := ev_aload_n cm_181 dX11_name_19 rfl rfl
theorem x181_20 : Ev L xs ρ 181 20 [l0, l1, l2] (.ref a :: st) (n, I, Lm, Rm) r ↔ (a < n ∧ shp a = (0, 11)) ∧ Ev L xs ρ 181 23 [l0, l1, l2] (.int (I a 2) :: st) (n, I, Lm, Rm) r := ev_gtI cm_181 dX11_name_20 rfl rfl
theorem x181_23 : Ev L xs ρ 181 23 [some (.ref a), l1, l2] st σ r ↔ Ev L xs ρ 181 24 [some (.ref a), l1, l2] (.ref a :: st) σ r := ev_aload_n cm_181 dX11_name_23 rfl rfl
theorem x181_24 : Ev L xs ρ 181 24 [l0, l1, l2] (.ref a :: st) (n, I, Lm, Rm) r ↔ (a < n ∧ shp a = (0, 11)) ∧ Ev L xs ρ 181 27 [l0, l1, l2] (.int (I a 4) :: st) (n, I, Lm, Rm) r := ev_gtI cm_181 dX11_name_24 rfl rfl
theorem x181_27 : Ev L xs ρ 181 27 [l0, l1, l2] (.int y :: .int x :: st) σ r ↔ if x = y then Ev L xs ρ 181 37 [l0, l1, l2] st σ r else Ev L xs ρ 181 30 [l0, l1, l2] st σ r := ev_iceq cm_181 dX11_name_27 (by decide)
theorem x181_30 : Ev L xs ρ 181 30 [some (.ref a), l1, l2] st σ r ↔ Ev L xs ρ 181 31 [some (.ref a), l1, l2] (.ref a :: st) σ r := ev_aload_n cm_181 dX11_name_30 rfl rfl
theorem x181_31 : Ev L xs 3 181 31 [l0, l1, l2] (.ref a :: []) (n, I, Lm, Rm) r ↔ (a < n ∧ shp a = (0, 11)) ∧ ∃ v n2 I2 L2 R2, Em L xs 180 [.ref a] (n, I, Lm, Rm) (v, n2, I2, L2, R2) ∧ Ev L xs 3 181 34 [l0, l1, l2] (v.toList ++ []) (n2, I2, L2, R2) r := ev_cV cm_181 [] dX11_name_31 rfl rfl rfl rfl (Nat.le_of_ble_eq_true rfl) (rka_lt rfl (by decide)) (Nat.le_of_ble_eq_true rfl)
theorem x181_34 : Ev L xs ρ 181 34 [l0, l1, l2] (.int x :: st) σ r ↔ if x = 0 then Ev L xs ρ 181 48 [l0, l1, l2] st σ r else Ev L xs ρ 181 37 [l0, l1, l2] st σ r := ev_ifeq cm_181 dX11_name_34 (by decide)
theorem x181_37 : Ev L xs ρ 181 37 [some (.ref a), l1, l2] st σ r ↔ Ev L xs ρ 181 38 [some (.ref a), l1, l2] (.ref a :: st) σ r := ev_aload_n cm_181 dX11_name_37 rfl rfl
theorem x181_38 : Ev L xs ρ 181 38 [l0, l1, l2] st σ r ↔ Ev L xs ρ 181 39 [l0, l1, l2] (.int (1) :: st) σ r := ev_iconst cm_181 dX11_name_38 (by decide)
theorem x181_39 : Ev L xs ρ 181 39 [some (.ref a), l1, l2] st σ r ↔ Ev L xs ρ 181 40 [some (.ref a), l1, l2] (.ref a :: st) σ r := ev_aload_n cm_181 dX11_name_39 rfl rfl
theorem x181_40 : Ev L xs ρ 181 40 [l0, l1, l2] (.ref a :: st) (n, I, Lm, Rm) r ↔ (a < n ∧ shp a = (0, 11)) ∧ Ev L xs ρ 181 43 [l0, l1, l2] (.int (I a 2) :: st) (n, I, Lm, Rm) r := ev_gtI cm_181 dX11_name_40 rfl rfl
theorem x181_43 : Ev L xs 3 181 43 [l0, l1, l2] (.int y :: .int x :: .ref a :: []) (n, I, Lm, Rm) r ↔ (a < n ∧ shp a = (0, 11)) ∧ ∃ v n2 I2 L2 R2, Em L xs 170 [.ref a, .int x, .int y] (n, I, Lm, Rm) (v, n2, I2, L2, R2) ∧ Ev L xs 3 181 46 [l0, l1, l2] (v.toList ++ []) (n2, I2, L2, R2) r := ev_cV cm_181 [.int x, .int y] dX11_name_43 rfl rfl rfl rfl (Nat.le_of_ble_eq_true rfl) (rka_lt rfl (by decide)) (Nat.le_of_ble_eq_true rfl)
theorem x181_46 : Ev L xs ρ 181 46 [l0, l1, l2] st σ r ↔ Ev L xs ρ 181 47 [l0, l1, l2] (.long (0) :: st) σ r := ev_lconst cm_181 dX11_name_46 (by decide)
theorem x181_47 : Ev L xs ρ 181 47 [l0, l1, l2] [.long u] σ r ↔ r = (some (.long u), σ) := ev_retl cm_181 dX11_name_47 rfl
theorem x181_48 : Ev L xs ρ 181 48 [some (.ref a), l1, l2] st σ r ↔ Ev L xs ρ 181 49 [some (.ref a), l1, l2] (.ref a :: st) σ r := ev_aload_n cm_181 dX11_name_48 rfl rfl
theorem x181_49 : Ev L xs ρ 181 49 [some (.ref a), l1, l2] st σ r ↔ Ev L xs ρ 181 50 [some (.ref a), l1, l2] (.ref a :: st) σ r := ev_aload_n cm_181 dX11_name_49 rfl rfl
theorem x181_50 : Ev L xs ρ 181 50 [l0, l1, l2] (.ref a :: st) (n, I, Lm, Rm) r ↔ (a < n ∧ shp a = (0, 11)) ∧ Ev L xs ρ 181 53 [l0, l1, l2] (.int (I a 2) :: st) (n, I, Lm, Rm) r := ev_gtI cm_181 dX11_name_50 rfl rfl
theorem x181_53 : Ev L xs ρ 181 53 [l0, l1, l2] (.int x :: .ref a :: st) (n, I, Lm, Rm) r ↔ (a < n ∧ shp a = (0, 11)) ∧ Ev L xs ρ 181 56 [l0, l1, l2] st (n, up2 I a 42 x, Lm, Rm) r := ev_ptI cm_181 dX11_name_53 rfl rfl (Or.inl rfl)
theorem x181_56 : Ev L xs ρ 181 56 [l0, l1, l2] st σ r ↔ Ev L xs ρ 181 57 [l0, l1, l2] (.long (0) :: st) σ r := ev_lconst cm_181 dX11_name_56 (by decide)
theorem x181_57 : Ev L xs ρ 181 57 [l0, l1, l2] (.long u :: st) σ r ↔ Ev L xs ρ 181 58 [l0, some (.long u), none] st σ r := ev_lstore_n cm_181 dX11_name_57 rfl (Nat.le_of_ble_eq_true rfl)
theorem x181_58 : Ev L xs ρ 181 58 [some (.ref a), l1, l2] st σ r ↔ Ev L xs ρ 181 59 [some (.ref a), l1, l2] (.ref a :: st) σ r := ev_aload_n cm_181 dX11_name_58 rfl rfl
theorem x181_59 : Ev L xs ρ 181 59 [l0, l1, l2] (.ref a :: st) (n, I, Lm, Rm) r ↔ (a < n ∧ shp a = (0, 11)) ∧ Ev L xs ρ 181 62 [l0, l1, l2] (.int (I a 2) :: st) (n, I, Lm, Rm) r := ev_gtI cm_181 dX11_name_59 rfl rfl
theorem x181_62 : Ev L xs ρ 181 62 [some (.ref a), l1, l2] st σ r ↔ Ev L xs ρ 181 63 [some (.ref a), l1, l2] (.ref a :: st) σ r := ev_aload_n cm_181 dX11_name_62 rfl rfl
theorem x181_63 : Ev L xs ρ 181 63 [l0, l1, l2] (.ref a :: st) (n, I, Lm, Rm) r ↔ (a < n ∧ shp a = (0, 11)) ∧ Ev L xs ρ 181 66 [l0, l1, l2] (.int (I a 3) :: st) (n, I, Lm, Rm) r := ev_gtI cm_181 dX11_name_63 rfl rfl
theorem x181_66 : Ev L xs ρ 181 66 [l0, l1, l2] (.int y :: .int x :: st) σ r ↔ if y ≤ x then Ev L xs ρ 181 145 [l0, l1, l2] st σ r else Ev L xs ρ 181 69 [l0, l1, l2] st σ r := ev_icge cm_181 dX11_name_66 (by decide)
theorem x181_69 : Ev L xs ρ 181 69 [some (.ref a), l1, l2] st σ r ↔ Ev L xs ρ 181 70 [some (.ref a), l1, l2] (.ref a :: st) σ r := ev_aload_n cm_181 dX11_name_69 rfl rfl
theorem x181_70 : Ev L xs ρ 181 70 [l0, l1, l2] (.ref a :: st) (n, I, Lm, Rm) r ↔ (a < n ∧ shp a = (0, 11)) ∧ Ev L xs ρ 181 73 [l0, l1, l2] (rfv (Rm a 0) :: st) (n, I, Lm, Rm) r := ev_gtR cm_181 dX11_name_70 rfl rfl
theorem x181_73 : Ev L xs ρ 181 73 [some (.ref a), l1, l2] st σ r ↔ Ev L xs ρ 181 74 [some (.ref a), l1, l2] (.ref a :: st) σ r := ev_aload_n cm_181 dX11_name_73 rfl rfl
theorem x181_74 : Ev L xs ρ 181 74 [l0, l1, l2] (.ref a :: st) (n, I, Lm, Rm) r ↔ (a < n ∧ shp a = (0, 11)) ∧ Ev L xs ρ 181 77 [l0, l1, l2] (.int (I a 2) :: st) (n, I, Lm, Rm) r := ev_gtI cm_181 dX11_name_74 rfl rfl
theorem x181_77 : Ev L xs ρ 181 77 [l0, l1, l2] (.int x :: .ref a :: st) (n, I, Lm, Rm) r ↔ ((a < n ∧ (shp a).1 = 1) ∧ inb x (shp a).2) ∧ Ev L xs ρ 181 78 [l0, l1, l2] (.int (I a (ixn x)) :: st) (n, I, Lm, Rm) r := ev_iald cm_181 dX11_name_77 (by decide)
theorem x181_78 : Ev L xs 3 181 78 [l0, l1, l2] (.int x :: []) σ r ↔ ∃ v n2 I2 L2 R2, Em L xs 171 [.int x] σ (v, n2, I2, L2, R2) ∧ Ev L xs 3 181 81 [l0, l1, l2] (v.toList ++ []) (n2, I2, L2, R2) r := ev_cS cm_181 [.int x] dX11_name_78 rfl rfl rfl (Nat.le_of_ble_eq_true rfl) (rka_lt rfl (by decide)) (Nat.le_of_ble_eq_true rfl)
theorem x181_81 : Ev L xs ρ 181 81 [l0, l1, l2] (.int x :: st) σ r ↔ if x = 0 then Ev L xs ρ 181 145 [l0, l1, l2] st σ r else Ev L xs ρ 181 84 [l0, l1, l2] st σ r := ev_ifeq cm_181 dX11_name_81 (by decide)
theorem x181_84 : Ev L xs ρ 181 84 [some (.ref a), l1, l2] st σ r ↔ Ev L xs ρ 181 85 [some (.ref a), l1, l2] (.ref a :: st) σ r := ev_aload_n cm_181 dX11_name_84 rfl rfl
theorem x181_85 : Ev L xs ρ 181 85 [l0, l1, l2] (.ref a :: st) (n, I, Lm, Rm) r ↔ (a < n ∧ shp a = (0, 11)) ∧ Ev L xs ρ 181 88 [l0, l1, l2] (.int (I a 2) :: st) (n, I, Lm, Rm) r := ev_gtI cm_181 dX11_name_85 rfl rfl
theorem x181_88 : Ev L xs ρ 181 88 [some (.ref a), l1, l2] st σ r ↔ Ev L xs ρ 181 89 [some (.ref a), l1, l2] (.ref a :: st) σ r := ev_aload_n cm_181 dX11_name_88 rfl rfl
theorem x181_89 : Ev L xs ρ 181 89 [l0, l1, l2] (.ref a :: st) (n, I, Lm, Rm) r ↔ (a < n ∧ shp a = (0, 11)) ∧ Ev L xs ρ 181 92 [l0, l1, l2] (.int (I a 42) :: st) (n, I, Lm, Rm) r := ev_gtI cm_181 dX11_name_89 rfl rfl
theorem x181_92 : Ev L xs ρ 181 92 [l0, l1, l2] (.int y :: .int x :: st) σ r ↔ Ev L xs ρ 181 93 [l0, l1, l2] (.int (x - y) :: st) σ r := ev_nx (ev_ex cm_181 dX11_name_92 rfl rfl)
theorem x181_93 : Ev L xs ρ 181 93 [l0, l1, l2] st σ r ↔ Ev L xs ρ 181 95 [l0, l1, l2] (.int (6) :: st) σ r := ev_bipush cm_181 dX11_name_93 (by decide)
theorem x181_95 : Ev L xs ρ 181 95 [l0, l1, l2] (.int y :: .int x :: st) σ r ↔ if x = y then Ev L xs ρ 181 98 [l0, l1, l2] st σ r else Ev L xs ρ 181 109 [l0, l1, l2] st σ r := ev_icne cm_181 dX11_name_95 (by decide)
theorem x181_98 : Ev L xs ρ 181 98 [some (.ref a), l1, l2] st σ r ↔ Ev L xs ρ 181 99 [some (.ref a), l1, l2] (.ref a :: st) σ r := ev_aload_n cm_181 dX11_name_98 rfl rfl
theorem x181_99 : Ev L xs ρ 181 99 [l0, l1, l2] st σ r ↔ Ev L xs ρ 181 100 [l0, l1, l2] (.int (1) :: st) σ r := ev_iconst cm_181 dX11_name_99 (by decide)
theorem x181_100 : Ev L xs ρ 181 100 [some (.ref a), l1, l2] st σ r ↔ Ev L xs ρ 181 101 [some (.ref a), l1, l2] (.ref a :: st) σ r := ev_aload_n cm_181 dX11_name_100 rfl rfl
theorem x181_101 : Ev L xs ρ 181 101 [l0, l1, l2] (.ref a :: st) (n, I, Lm, Rm) r ↔ (a < n ∧ shp a = (0, 11)) ∧ Ev L xs ρ 181 104 [l0, l1, l2] (.int (I a 2) :: st) (n, I, Lm, Rm) r := ev_gtI cm_181 dX11_name_101 rfl rfl
theorem x181_104 : Ev L xs 3 181 104 [l0, l1, l2] (.int y :: .int x :: .ref a :: []) (n, I, Lm, Rm) r ↔ (a < n ∧ shp a = (0, 11)) ∧ ∃ v n2 I2 L2 R2, Em L xs 170 [.ref a, .int x, .int y] (n, I, Lm, Rm) (v, n2, I2, L2, R2) ∧ Ev L xs 3 181 107 [l0, l1, l2] (v.toList ++ []) (n2, I2, L2, R2) r := ev_cV cm_181 [.int x, .int y] dX11_name_104 rfl rfl rfl rfl (Nat.le_of_ble_eq_true rfl) (rka_lt rfl (by decide)) (Nat.le_of_ble_eq_true rfl)
theorem x181_107 : Ev L xs ρ 181 107 [l0, l1, l2] st σ r ↔ Ev L xs ρ 181 108 [l0, l1, l2] (.long (0) :: st) σ r := ev_lconst cm_181 dX11_name_107 (by decide)
theorem x181_108 : Ev L xs ρ 181 108 [l0, l1, l2] [.long u] σ r ↔ r = (some (.long u), σ) := ev_retl cm_181 dX11_name_108 rfl
theorem x181_109 : Ev L xs ρ 181 109 [l0, l1, l2] st σ r ↔ Ev L xs ρ 181 112 [l0, l1, l2] (.long (27) :: st) σ r := ev_ldc2 cm_181 dX11_name_109 rfl
theorem x181_112 : Ev L xs ρ 181 112 [l0, some (.long u), none] st σ r ↔ Ev L xs ρ 181 113 [l0, some (.long u), none] (.long u :: st) σ r := ev_lload_n cm_181 dX11_name_112 rfl rfl rfl
theorem x181_113 : Ev L xs ρ 181 113 [l0, l1, l2] (.long v :: .long u :: st) σ r ↔ Ev L xs ρ 181 114 [l0, l1, l2] (.long (u * v) :: st) σ r := ev_nx (ev_ex cm_181 dX11_name_113 rfl rfl)
theorem x181_114 : Ev L xs ρ 181 114 [some (.ref a), l1, l2] st σ r ↔ Ev L xs ρ 181 115 [some (.ref a), l1, l2] (.ref a :: st) σ r := ev_aload_n cm_181 dX11_name_114 rfl rfl
theorem x181_115 : Ev L xs ρ 181 115 [l0, l1, l2] (.ref a :: st) (n, I, Lm, Rm) r ↔ (a < n ∧ shp a = (0, 11)) ∧ Ev L xs ρ 181 118 [l0, l1, l2] (rfv (Rm a 0) :: st) (n, I, Lm, Rm) r := ev_gtR cm_181 dX11_name_115 rfl rfl
theorem x181_118 : Ev L xs ρ 181 118 [some (.ref a), l1, l2] st σ r ↔ Ev L xs ρ 181 119 [some (.ref a), l1, l2] (.ref a :: st) σ r := ev_aload_n cm_181 dX11_name_118 rfl rfl
theorem x181_119 : Ev L xs ρ 181 119 [l0, l1, l2] (.ref a :: st) (n, I, Lm, Rm) r ↔ (a < n ∧ shp a = (0, 11)) ∧ Ev L xs ρ 181 122 [l0, l1, l2] (.int (I a 2) :: st) (n, I, Lm, Rm) r := ev_gtI cm_181 dX11_name_119 rfl rfl
theorem x181_122 : Ev L xs ρ 181 122 [l0, l1, l2] (.int x :: .ref a :: st) (n, I, Lm, Rm) r ↔ ((a < n ∧ (shp a).1 = 1) ∧ inb x (shp a).2) ∧ Ev L xs ρ 181 123 [l0, l1, l2] (.int (I a (ixn x)) :: st) (n, I, Lm, Rm) r := ev_iald cm_181 dX11_name_122 (by decide)
theorem x181_123 : Ev L xs ρ 181 123 [l0, l1, l2] (.int x :: st) σ r ↔ Ev L xs ρ 181 124 [l0, l1, l2] (.long x.toInt64 :: st) σ r := ev_nx (ev_ex cm_181 dX11_name_123 rfl rfl)
theorem x181_124 : Ev L xs ρ 181 124 [l0, l1, l2] (.long v :: .long u :: st) σ r ↔ Ev L xs ρ 181 125 [l0, l1, l2] (.long (u + v) :: st) σ r := ev_nx (ev_ex cm_181 dX11_name_124 rfl rfl)
theorem x181_125 : Ev L xs ρ 181 125 [l0, l1, l2] st σ r ↔ Ev L xs ρ 181 128 [l0, l1, l2] (.long (97) :: st) σ r := ev_ldc2 cm_181 dX11_name_125 rfl
theorem x181_128 : Ev L xs ρ 181 128 [l0, l1, l2] (.long v :: .long u :: st) σ r ↔ Ev L xs ρ 181 129 [l0, l1, l2] (.long (u - v) :: st) σ r := ev_nx (ev_ex cm_181 dX11_name_128 rfl rfl)
theorem x181_129 : Ev L xs ρ 181 129 [l0, l1, l2] st σ r ↔ Ev L xs ρ 181 130 [l0, l1, l2] (.long (1) :: st) σ r := ev_lconst cm_181 dX11_name_129 (by decide)
theorem x181_130 : Ev L xs ρ 181 130 [l0, l1, l2] (.long v :: .long u :: st) σ r ↔ Ev L xs ρ 181 131 [l0, l1, l2] (.long (u + v) :: st) σ r := ev_nx (ev_ex cm_181 dX11_name_130 rfl rfl)
theorem x181_131 : Ev L xs ρ 181 131 [l0, l1, l2] (.long u :: st) σ r ↔ Ev L xs ρ 181 132 [l0, some (.long u), none] st σ r := ev_lstore_n cm_181 dX11_name_131 rfl (Nat.le_of_ble_eq_true rfl)
theorem x181_132 : Ev L xs ρ 181 132 [some (.ref a), l1, l2] st σ r ↔ Ev L xs ρ 181 133 [some (.ref a), l1, l2] (.ref a :: st) σ r := ev_aload_n cm_181 dX11_name_132 rfl rfl
theorem x181_133 : Ev L xs ρ 181 133 [l0, l1, l2] (.ref a :: st) σ r ↔ Ev L xs ρ 181 134 [l0, l1, l2] (.ref a :: .ref a :: st) σ r := ev_nx (ev_ex cm_181 dX11_name_133 rfl rfl)
theorem x181_134 : Ev L xs ρ 181 134 [l0, l1, l2] (.ref a :: st) (n, I, Lm, Rm) r ↔ (a < n ∧ shp a = (0, 11)) ∧ Ev L xs ρ 181 137 [l0, l1, l2] (.int (I a 2) :: st) (n, I, Lm, Rm) r := ev_gtI cm_181 dX11_name_134 rfl rfl
theorem x181_137 : Ev L xs ρ 181 137 [l0, l1, l2] st σ r ↔ Ev L xs ρ 181 138 [l0, l1, l2] (.int (1) :: st) σ r := ev_iconst cm_181 dX11_name_137 (by decide)
theorem x181_138 : Ev L xs ρ 181 138 [l0, l1, l2] (.int y :: .int x :: st) σ r ↔ Ev L xs ρ 181 139 [l0, l1, l2] (.int (x + y) :: st) σ r := ev_nx (ev_ex cm_181 dX11_name_138 rfl rfl)
theorem x181_139 : Ev L xs ρ 181 139 [l0, l1, l2] (.int x :: .ref a :: st) (n, I, Lm, Rm) r ↔ (a < n ∧ shp a = (0, 11)) ∧ Ev L xs ρ 181 142 [l0, l1, l2] st (n, up2 I a 2 x, Lm, Rm) r := ev_ptI cm_181 dX11_name_139 rfl rfl (Or.inl rfl)
theorem x181_142 : Ev L xs ρ 181 142 [l0, l1, l2] st σ r ↔ Ev L xs ρ 181 58 [l0, l1, l2] st σ r := ev_goto cm_181 dX11_name_142 (by decide)
theorem x181_145 : Ev L xs ρ 181 145 [some (.ref a), l1, l2] st σ r ↔ Ev L xs ρ 181 146 [some (.ref a), l1, l2] (.ref a :: st) σ r := ev_aload_n cm_181 dX11_name_145 rfl rfl
theorem x181_146 : Ev L xs ρ 181 146 [some (.ref a), l1, l2] st σ r ↔ Ev L xs ρ 181 147 [some (.ref a), l1, l2] (.ref a :: st) σ r := ev_aload_n cm_181 dX11_name_146 rfl rfl
theorem x181_147 : Ev L xs ρ 181 147 [l0, l1, l2] (.ref a :: st) (n, I, Lm, Rm) r ↔ (a < n ∧ shp a = (0, 11)) ∧ Ev L xs ρ 181 150 [l0, l1, l2] (.int (I a 2) :: st) (n, I, Lm, Rm) r := ev_gtI cm_181 dX11_name_147 rfl rfl
theorem x181_150 : Ev L xs ρ 181 150 [l0, l1, l2] (.int x :: .ref a :: st) (n, I, Lm, Rm) r ↔ (a < n ∧ shp a = (0, 11)) ∧ Ev L xs ρ 181 153 [l0, l1, l2] st (n, up2 I a 4 x, Lm, Rm) r := ev_ptI cm_181 dX11_name_150 rfl rfl (Or.inl rfl)
theorem x181_153 : Ev L xs ρ 181 153 [l0, some (.long u), none] st σ r ↔ Ev L xs ρ 181 154 [l0, some (.long u), none] (.long u :: st) σ r := ev_lload_n cm_181 dX11_name_153 rfl rfl rfl
theorem x181_154 : Ev L xs ρ 181 154 [l0, l1, l2] [.long u] σ r ↔ r = (some (.long u), σ) := ev_retl cm_181 dX11_name_154 rfl
theorem cm_182 : mcd 182 = cX11_begins := rfl
theorem em_182 : Em L xs 182 [.ref a] σ r ↔ Ev L xs 0 182 0 [some (.ref a)] [] σ r := Iff.rfl
theorem x182_0 : Ev L xs ρ 182 0 [some (.ref a)] st σ r ↔ Ev L xs ρ 182 1 [some (.ref a)] (.ref a :: st) σ r := ev_aload_n cm_182 dX11_begins_0 rfl rfl
theorem x182_1 : Ev L xs ρ 182 1 [some (.ref a)] st σ r ↔ Ev L xs ρ 182 2 [some (.ref a)] (.ref a :: st) σ r := ev_aload_n cm_182 dX11_begins_1 rfl rfl
theorem x182_2 : Ev L xs ρ 182 2 [l0] (.ref a :: st) (n, I, Lm, Rm) r ↔ (a < n ∧ shp a = (0, 11)) ∧ Ev L xs ρ 182 5 [l0] (.int (I a 1) :: st) (n, I, Lm, Rm) r := ev_gtI cm_182 dX11_begins_2 rfl rfl
theorem x182_5 : Ev L xs ρ 182 5 [l0] (.int x :: .ref a :: st) (n, I, Lm, Rm) r ↔ (a < n ∧ shp a = (0, 11)) ∧ Ev L xs ρ 182 8 [l0] st (n, up2 I a 3 x, Lm, Rm) r := ev_ptI cm_182 dX11_begins_5 rfl rfl (Or.inl rfl)
theorem x182_8 : Ev L xs ρ 182 8 [some (.ref a)] st σ r ↔ Ev L xs ρ 182 9 [some (.ref a)] (.ref a :: st) σ r := ev_aload_n cm_182 dX11_begins_8 rfl rfl
theorem x182_9 : Ev L xs ρ 182 9 [l0] st σ r ↔ Ev L xs ρ 182 10 [l0] (.int (0) :: st) σ r := ev_iconst cm_182 dX11_begins_9 (by decide)
theorem x182_10 : Ev L xs ρ 182 10 [l0] (.int x :: .ref a :: st) (n, I, Lm, Rm) r ↔ (a < n ∧ shp a = (0, 11)) ∧ Ev L xs ρ 182 13 [l0] st (n, up2 I a 1 x, Lm, Rm) r := ev_ptI cm_182 dX11_begins_10 rfl rfl (Or.inl rfl)
theorem x182_13 : Ev L xs ρ 182 13 [some (.ref a)] st σ r ↔ Ev L xs ρ 182 14 [some (.ref a)] (.ref a :: st) σ r := ev_aload_n cm_182 dX11_begins_13 rfl rfl
theorem x182_14 : Ev L xs ρ 182 14 [l0] st σ r ↔ Ev L xs ρ 182 15 [l0] (.int (0) :: st) σ r := ev_iconst cm_182 dX11_begins_14 (by decide)
theorem x182_15 : Ev L xs ρ 182 15 [l0] (.int x :: .ref a :: st) (n, I, Lm, Rm) r ↔ (a < n ∧ shp a = (0, 11)) ∧ Ev L xs ρ 182 18 [l0] st (n, up2 I a 2 x, Lm, Rm) r := ev_ptI cm_182 dX11_begins_15 rfl rfl (Or.inl rfl)
theorem x182_18 : Ev L xs ρ 182 18 [some (.ref a)] st σ r ↔ Ev L xs ρ 182 19 [some (.ref a)] (.ref a :: st) σ r := ev_aload_n cm_182 dX11_begins_18 rfl rfl
theorem x182_19 : Ev L xs ρ 182 19 [l0] st σ r ↔ Ev L xs ρ 182 20 [l0] (.int (-1) :: st) σ r := ev_iconst cm_182 dX11_begins_19 (by decide)
theorem x182_20 : Ev L xs ρ 182 20 [l0] (.int x :: .ref a :: st) (n, I, Lm, Rm) r ↔ (a < n ∧ shp a = (0, 11)) ∧ Ev L xs ρ 182 23 [l0] st (n, up2 I a 4 x, Lm, Rm) r := ev_ptI cm_182 dX11_begins_20 rfl rfl (Or.inl rfl)
theorem x182_23 : Ev L xs ρ 182 23 [some (.ref a)] st σ r ↔ Ev L xs ρ 182 24 [some (.ref a)] (.ref a :: st) σ r := ev_aload_n cm_182 dX11_begins_23 rfl rfl
theorem x182_24 : Ev L xs ρ 182 24 [l0] st σ r ↔ Ev L xs ρ 182 25 [l0] (.int (0) :: st) σ r := ev_iconst cm_182 dX11_begins_24 (by decide)
theorem x182_25 : Ev L xs ρ 182 25 [l0] (.int x :: .ref a :: st) (n, I, Lm, Rm) r ↔ (a < n ∧ shp a = (0, 11)) ∧ Ev L xs ρ 182 28 [l0] st (n, up2 I a 5 x, Lm, Rm) r := ev_ptI cm_182 dX11_begins_25 rfl rfl (Or.inl rfl)
theorem x182_28 : Ev L xs ρ 182 28 [some (.ref a)] st σ r ↔ Ev L xs ρ 182 29 [some (.ref a)] (.ref a :: st) σ r := ev_aload_n cm_182 dX11_begins_28 rfl rfl
theorem x182_29 : Ev L xs ρ 182 29 [l0] st σ r ↔ Ev L xs ρ 182 30 [l0] (.int (-1) :: st) σ r := ev_iconst cm_182 dX11_begins_29 (by decide)
theorem x182_30 : Ev L xs ρ 182 30 [l0] (.int x :: .ref a :: st) (n, I, Lm, Rm) r ↔ (a < n ∧ shp a = (0, 11)) ∧ Ev L xs ρ 182 33 [l0] st (n, up2 I a 6 x, Lm, Rm) r := ev_ptI cm_182 dX11_begins_30 rfl rfl (Or.inl rfl)
theorem x182_33 : Ev L xs ρ 182 33 [some (.ref a)] st σ r ↔ Ev L xs ρ 182 34 [some (.ref a)] (.ref a :: st) σ r := ev_aload_n cm_182 dX11_begins_33 rfl rfl
theorem x182_34 : Ev L xs ρ 182 34 [l0] st σ r ↔ Ev L xs ρ 182 35 [l0] (.int (0) :: st) σ r := ev_iconst cm_182 dX11_begins_34 (by decide)
theorem x182_35 : Ev L xs ρ 182 35 [l0] (.int x :: .ref a :: st) (n, I, Lm, Rm) r ↔ (a < n ∧ shp a = (0, 11)) ∧ Ev L xs ρ 182 38 [l0] st (n, up2 I a 53 x, Lm, Rm) r := ev_ptI cm_182 dX11_begins_35 rfl rfl (Or.inl rfl)
theorem x182_38 : Ev L xs ρ 182 38 [some (.ref a)] st σ r ↔ Ev L xs ρ 182 39 [some (.ref a)] (.ref a :: st) σ r := ev_aload_n cm_182 dX11_begins_38 rfl rfl
theorem x182_39 : Ev L xs ρ 182 39 [l0] st σ r ↔ Ev L xs ρ 182 40 [l0] (.int (0) :: st) σ r := ev_iconst cm_182 dX11_begins_39 (by decide)
theorem x182_40 : Ev L xs ρ 182 40 [l0] (.int x :: .ref a :: st) (n, I, Lm, Rm) r ↔ (a < n ∧ shp a = (0, 11)) ∧ Ev L xs ρ 182 43 [l0] st (n, up2 I a 56 x, Lm, Rm) r := ev_ptI cm_182 dX11_begins_40 rfl rfl (Or.inl rfl)
theorem x182_43 : Ev L xs ρ 182 43 [l0] [] σ r ↔ r = (none, σ) := ev_retv cm_182 dX11_begins_43 rfl
theorem cm_183 : mcd 183 = cX11_nameOf := rfl
theorem em_183 : Em L xs 183 [.ref a, .int x, .long u] σ r ↔ Ev L xs 0 183 0 [some (.ref a), some (.int x), some (.long u), none, none] [] σ r := Iff.rfl
theorem x183_0 : Ev L xs ρ 183 0 [l0, l1, l2, l3, l4] st σ r ↔ Ev L xs ρ 183 1 [l0, l1, l2, l3, l4] (.int (0) :: st) σ r := ev_iconst cm_183 dX11_nameOf_0 (by decide)
theorem x183_1 : Ev L xs ρ 183 1 [l0, l1, l2, l3, l4] (.int x :: st) σ r ↔ Ev L xs ρ 183 3 [l0, l1, l2, l3, some (.int x)] st σ r := ev_istore cm_183 dX11_nameOf_1 (Nat.le_of_ble_eq_true rfl)
theorem x183_3 : Ev L xs ρ 183 3 [l0, l1, l2, l3, some (.int x)] st σ r ↔ Ev L xs ρ 183 5 [l0, l1, l2, l3, some (.int x)] (.int x :: st) σ r := ev_iload cm_183 dX11_nameOf_3 rfl
theorem x183_5 : Ev L xs ρ 183 5 [some (.ref a), l1, l2, l3, l4] st σ r ↔ Ev L xs ρ 183 6 [some (.ref a), l1, l2, l3, l4] (.ref a :: st) σ r := ev_aload_n cm_183 dX11_nameOf_5 rfl rfl
theorem x183_6 : Ev L xs ρ 183 6 [l0, l1, l2, l3, l4] (.ref a :: st) (n, I, Lm, Rm) r ↔ (a < n ∧ shp a = (0, 11)) ∧ Ev L xs ρ 183 9 [l0, l1, l2, l3, l4] (rfv (Rm a 44) :: st) (n, I, Lm, Rm) r := ev_gtR cm_183 dX11_nameOf_6 rfl rfl
theorem x183_9 : Ev L xs ρ 183 9 [l0, some (.int x), l2, l3, l4] st σ r ↔ Ev L xs ρ 183 10 [l0, some (.int x), l2, l3, l4] (.int x :: st) σ r := ev_iload_n cm_183 dX11_nameOf_9 rfl rfl
theorem x183_10 : Ev L xs ρ 183 10 [l0, l1, l2, l3, l4] (.int x :: .ref a :: st) (n, I, Lm, Rm) r ↔ ((a < n ∧ (shp a).1 = 1) ∧ inb x (shp a).2) ∧ Ev L xs ρ 183 11 [l0, l1, l2, l3, l4] (.int (I a (ixn x)) :: st) (n, I, Lm, Rm) r := ev_iald cm_183 dX11_nameOf_10 (by decide)
theorem x183_11 : Ev L xs ρ 183 11 [l0, l1, l2, l3, l4] (.int y :: .int x :: st) σ r ↔ if y ≤ x then Ev L xs ρ 183 40 [l0, l1, l2, l3, l4] st σ r else Ev L xs ρ 183 14 [l0, l1, l2, l3, l4] st σ r := ev_icge cm_183 dX11_nameOf_11 (by decide)
theorem x183_14 : Ev L xs ρ 183 14 [some (.ref a), l1, l2, l3, l4] st σ r ↔ Ev L xs ρ 183 15 [some (.ref a), l1, l2, l3, l4] (.ref a :: st) σ r := ev_aload_n cm_183 dX11_nameOf_14 rfl rfl
theorem x183_15 : Ev L xs ρ 183 15 [l0, l1, l2, l3, l4] (.ref a :: st) (n, I, Lm, Rm) r ↔ (a < n ∧ shp a = (0, 11)) ∧ Ev L xs ρ 183 18 [l0, l1, l2, l3, l4] (rfv (Rm a 43) :: st) (n, I, Lm, Rm) r := ev_gtR cm_183 dX11_nameOf_15 rfl rfl
theorem x183_18 : Ev L xs ρ 183 18 [l0, l1, l2, l3, l4] st σ r ↔ Ev L xs ρ 183 20 [l0, l1, l2, l3, l4] (.int (12) :: st) σ r := ev_bipush cm_183 dX11_nameOf_18 (by decide)
theorem x183_20 : Ev L xs ρ 183 20 [l0, some (.int x), l2, l3, l4] st σ r ↔ Ev L xs ρ 183 21 [l0, some (.int x), l2, l3, l4] (.int x :: st) σ r := ev_iload_n cm_183 dX11_nameOf_20 rfl rfl
theorem x183_21 : Ev L xs ρ 183 21 [l0, l1, l2, l3, l4] (.int y :: .int x :: st) σ r ↔ Ev L xs ρ 183 22 [l0, l1, l2, l3, l4] (.int (x * y) :: st) σ r := ev_nx (ev_ex cm_183 dX11_nameOf_21 rfl rfl)
theorem x183_22 : Ev L xs ρ 183 22 [l0, l1, l2, l3, some (.int x)] st σ r ↔ Ev L xs ρ 183 24 [l0, l1, l2, l3, some (.int x)] (.int x :: st) σ r := ev_iload cm_183 dX11_nameOf_22 rfl
theorem x183_24 : Ev L xs ρ 183 24 [l0, l1, l2, l3, l4] (.int y :: .int x :: st) σ r ↔ Ev L xs ρ 183 25 [l0, l1, l2, l3, l4] (.int (x + y) :: st) σ r := ev_nx (ev_ex cm_183 dX11_nameOf_24 rfl rfl)
theorem x183_25 : Ev L xs ρ 183 25 [l0, l1, l2, l3, l4] (.int x :: .ref a :: st) (n, I, Lm, Rm) r ↔ ((a < n ∧ (shp a).1 = 3) ∧ inb x (shp a).2) ∧ Ev L xs ρ 183 26 [l0, l1, l2, l3, l4] (.long (Lm a (ixn x)) :: st) (n, I, Lm, Rm) r := ev_lald cm_183 dX11_nameOf_25
theorem x183_26 : Ev L xs ρ 183 26 [l0, l1, some (.long u), none, l4] st σ r ↔ Ev L xs ρ 183 27 [l0, l1, some (.long u), none, l4] (.long u :: st) σ r := ev_lload_n cm_183 dX11_nameOf_26 rfl rfl rfl
theorem x183_27 : Ev L xs ρ 183 27 [l0, l1, l2, l3, l4] (.long v :: .long u :: st) σ r ↔ Ev L xs ρ 183 28 [l0, l1, l2, l3, l4] (.int (lg_cmp u v) :: st) σ r := ev_nx (ev_ex cm_183 dX11_nameOf_27 rfl rfl)
theorem x183_28 : Ev L xs ρ 183 28 [l0, l1, l2, l3, l4] (.int x :: st) σ r ↔ if x = 0 then Ev L xs ρ 183 31 [l0, l1, l2, l3, l4] st σ r else Ev L xs ρ 183 34 [l0, l1, l2, l3, l4] st σ r := ev_ifne cm_183 dX11_nameOf_28 (by decide)
theorem x183_31 : Ev L xs ρ 183 31 [l0, l1, l2, l3, some (.int x)] st σ r ↔ Ev L xs ρ 183 33 [l0, l1, l2, l3, some (.int x)] (.int x :: st) σ r := ev_iload cm_183 dX11_nameOf_31 rfl
theorem x183_33 : Ev L xs ρ 183 33 [l0, l1, l2, l3, l4] [.int x] σ r ↔ r = (some (.int x), σ) := ev_reti cm_183 dX11_nameOf_33 rfl
theorem x183_34 : Ev L xs ρ 183 34 [l0, l1, l2, l3, some (.int x)] st σ r ↔ Ev L xs ρ 183 37 [l0, l1, l2, l3, some (.int (x + (1)))] st σ r := ev_iinc cm_183 dX11_nameOf_34 rfl (by decide)
theorem x183_37 : Ev L xs ρ 183 37 [l0, l1, l2, l3, l4] st σ r ↔ Ev L xs ρ 183 3 [l0, l1, l2, l3, l4] st σ r := ev_goto cm_183 dX11_nameOf_37 (by decide)
theorem x183_40 : Ev L xs ρ 183 40 [l0, l1, l2, l3, l4] st σ r ↔ Ev L xs ρ 183 41 [l0, l1, l2, l3, l4] (.int (-1) :: st) σ r := ev_iconst cm_183 dX11_nameOf_40 (by decide)
theorem x183_41 : Ev L xs ρ 183 41 [l0, l1, l2, l3, l4] [.int x] σ r ↔ r = (some (.int x), σ) := ev_reti cm_183 dX11_nameOf_41 rfl
theorem cm_184 : mcd 184 = cX11_newName := rfl
theorem em_184 : Em L xs 184 [.ref a, .int x] σ r ↔ Ev L xs 4 184 0 [some (.ref a), some (.int x), none, none, none] [] σ r := Iff.rfl
theorem x184_0 : Ev L xs ρ 184 0 [some (.ref a), l1, l2, l3, l4] st σ r ↔ Ev L xs ρ 184 1 [some (.ref a), l1, l2, l3, l4] (.ref a :: st) σ r := ev_aload_n cm_184 dX11_newName_0 rfl rfl
theorem x184_1 : Ev L xs 4 184 1 [l0, l1, l2, l3, l4] (.ref a :: []) (n, I, Lm, Rm) r ↔ (a < n ∧ shp a = (0, 11)) ∧ ∃ v n2 I2 L2 R2, Em L xs 181 [.ref a] (n, I, Lm, Rm) (v, n2, I2, L2, R2) ∧ Ev L xs 4 184 4 [l0, l1, l2, l3, l4] (v.toList ++ []) (n2, I2, L2, R2) r := ev_cV cm_184 [] dX11_newName_1 rfl rfl rfl rfl (Nat.le_of_ble_eq_true rfl) (rka_lt rfl (by decide)) (Nat.le_of_ble_eq_true rfl)
theorem x184_4 : Ev L xs ρ 184 4 [l0, l1, l2, l3, l4] (.long u :: st) σ r ↔ Ev L xs ρ 184 5 [l0, l1, some (.long u), none, l4] st σ r := ev_lstore_n cm_184 dX11_newName_4 rfl (Nat.le_of_ble_eq_true rfl)
theorem x184_5 : Ev L xs ρ 184 5 [l0, l1, l2, l3, l4] st σ r ↔ Ev L xs ρ 184 6 [l0, l1, l2, l3, l4] (.int (0) :: st) σ r := ev_iconst cm_184 dX11_newName_5 (by decide)
theorem x184_6 : Ev L xs ρ 184 6 [l0, l1, l2, l3, l4] (.int x :: st) σ r ↔ Ev L xs ρ 184 8 [l0, l1, l2, l3, some (.int x)] st σ r := ev_istore cm_184 dX11_newName_6 (Nat.le_of_ble_eq_true rfl)
theorem x184_8 : Ev L xs ρ 184 8 [l0, l1, l2, l3, some (.int x)] st σ r ↔ Ev L xs ρ 184 10 [l0, l1, l2, l3, some (.int x)] (.int x :: st) σ r := ev_iload cm_184 dX11_newName_8 rfl
theorem x184_10 : Ev L xs ρ 184 10 [l0, l1, l2, l3, l4] st σ r ↔ Ev L xs ρ 184 11 [l0, l1, l2, l3, l4] (.int (3) :: st) σ r := ev_iconst cm_184 dX11_newName_10 (by decide)
theorem x184_11 : Ev L xs ρ 184 11 [l0, l1, l2, l3, l4] (.int y :: .int x :: st) σ r ↔ if y ≤ x then Ev L xs ρ 184 47 [l0, l1, l2, l3, l4] st σ r else Ev L xs ρ 184 14 [l0, l1, l2, l3, l4] st σ r := ev_icge cm_184 dX11_newName_11 (by decide)
theorem x184_14 : Ev L xs ρ 184 14 [some (.ref a), l1, l2, l3, l4] st σ r ↔ Ev L xs ρ 184 15 [some (.ref a), l1, l2, l3, l4] (.ref a :: st) σ r := ev_aload_n cm_184 dX11_newName_14 rfl rfl
theorem x184_15 : Ev L xs ρ 184 15 [l0, l1, l2, l3, l4] (.ref a :: st) (n, I, Lm, Rm) r ↔ (a < n ∧ shp a = (0, 11)) ∧ Ev L xs ρ 184 18 [l0, l1, l2, l3, l4] (.int (I a 5) :: st) (n, I, Lm, Rm) r := ev_gtI cm_184 dX11_newName_15 rfl rfl
theorem x184_18 : Ev L xs ρ 184 18 [l0, l1, l2, l3, l4] (.int x :: st) σ r ↔ if x = 0 then Ev L xs ρ 184 21 [l0, l1, l2, l3, l4] st σ r else Ev L xs ρ 184 47 [l0, l1, l2, l3, l4] st σ r := ev_ifne cm_184 dX11_newName_18 (by decide)
theorem x184_21 : Ev L xs ρ 184 21 [some (.ref a), l1, l2, l3, l4] st σ r ↔ Ev L xs ρ 184 22 [some (.ref a), l1, l2, l3, l4] (.ref a :: st) σ r := ev_aload_n cm_184 dX11_newName_21 rfl rfl
theorem x184_22 : Ev L xs ρ 184 22 [l0, l1, l2, l3, some (.int x)] st σ r ↔ Ev L xs ρ 184 24 [l0, l1, l2, l3, some (.int x)] (.int x :: st) σ r := ev_iload cm_184 dX11_newName_22 rfl
theorem x184_24 : Ev L xs ρ 184 24 [l0, l1, some (.long u), none, l4] st σ r ↔ Ev L xs ρ 184 25 [l0, l1, some (.long u), none, l4] (.long u :: st) σ r := ev_lload_n cm_184 dX11_newName_24 rfl rfl rfl
theorem x184_25 : Ev L xs 4 184 25 [l0, l1, l2, l3, l4] (.long u :: .int x :: .ref a :: []) (n, I, Lm, Rm) r ↔ (a < n ∧ shp a = (0, 11)) ∧ ∃ v n2 I2 L2 R2, Em L xs 183 [.ref a, .int x, .long u] (n, I, Lm, Rm) (v, n2, I2, L2, R2) ∧ Ev L xs 4 184 28 [l0, l1, l2, l3, l4] (v.toList ++ []) (n2, I2, L2, R2) r := ev_cV cm_184 [.int x, .long u] dX11_newName_25 rfl rfl rfl rfl (Nat.le_of_ble_eq_true rfl) (rka_lt rfl (by decide)) (Nat.le_of_ble_eq_true rfl)
theorem x184_28 : Ev L xs ρ 184 28 [l0, l1, l2, l3, l4] st σ r ↔ Ev L xs ρ 184 29 [l0, l1, l2, l3, l4] (.int (-1) :: st) σ r := ev_iconst cm_184 dX11_newName_28 (by decide)
theorem x184_29 : Ev L xs ρ 184 29 [l0, l1, l2, l3, l4] (.int y :: .int x :: st) σ r ↔ if x = y then Ev L xs ρ 184 41 [l0, l1, l2, l3, l4] st σ r else Ev L xs ρ 184 32 [l0, l1, l2, l3, l4] st σ r := ev_iceq cm_184 dX11_newName_29 (by decide)
theorem x184_32 : Ev L xs ρ 184 32 [some (.ref a), l1, l2, l3, l4] st σ r ↔ Ev L xs ρ 184 33 [some (.ref a), l1, l2, l3, l4] (.ref a :: st) σ r := ev_aload_n cm_184 dX11_newName_32 rfl rfl
theorem x184_33 : Ev L xs ρ 184 33 [l0, l1, l2, l3, l4] st σ r ↔ Ev L xs ρ 184 34 [l0, l1, l2, l3, l4] (.int (3) :: st) σ r := ev_iconst cm_184 dX11_newName_33 (by decide)
theorem x184_34 : Ev L xs ρ 184 34 [some (.ref a), l1, l2, l3, l4] st σ r ↔ Ev L xs ρ 184 35 [some (.ref a), l1, l2, l3, l4] (.ref a :: st) σ r := ev_aload_n cm_184 dX11_newName_34 rfl rfl
theorem x184_35 : Ev L xs ρ 184 35 [l0, l1, l2, l3, l4] (.ref a :: st) (n, I, Lm, Rm) r ↔ (a < n ∧ shp a = (0, 11)) ∧ Ev L xs ρ 184 38 [l0, l1, l2, l3, l4] (.int (I a 42) :: st) (n, I, Lm, Rm) r := ev_gtI cm_184 dX11_newName_35 rfl rfl
theorem x184_38 : Ev L xs 4 184 38 [l0, l1, l2, l3, l4] (.int y :: .int x :: .ref a :: []) (n, I, Lm, Rm) r ↔ (a < n ∧ shp a = (0, 11)) ∧ ∃ v n2 I2 L2 R2, Em L xs 170 [.ref a, .int x, .int y] (n, I, Lm, Rm) (v, n2, I2, L2, R2) ∧ Ev L xs 4 184 41 [l0, l1, l2, l3, l4] (v.toList ++ []) (n2, I2, L2, R2) r := ev_cV cm_184 [.int x, .int y] dX11_newName_38 rfl rfl rfl rfl (Nat.le_of_ble_eq_true rfl) (rka_lt rfl (by decide)) (Nat.le_of_ble_eq_true rfl)
theorem x184_41 : Ev L xs ρ 184 41 [l0, l1, l2, l3, some (.int x)] st σ r ↔ Ev L xs ρ 184 44 [l0, l1, l2, l3, some (.int (x + (1)))] st σ r := ev_iinc cm_184 dX11_newName_41 rfl (by decide)
theorem x184_44 : Ev L xs ρ 184 44 [l0, l1, l2, l3, l4] st σ r ↔ Ev L xs ρ 184 8 [l0, l1, l2, l3, l4] st σ r := ev_goto cm_184 dX11_newName_44 (by decide)
theorem x184_47 : Ev L xs ρ 184 47 [some (.ref a), l1, l2, l3, l4] st σ r ↔ Ev L xs ρ 184 48 [some (.ref a), l1, l2, l3, l4] (.ref a :: st) σ r := ev_aload_n cm_184 dX11_newName_47 rfl rfl
theorem x184_48 : Ev L xs ρ 184 48 [l0, l1, l2, l3, l4] (.ref a :: st) (n, I, Lm, Rm) r ↔ (a < n ∧ shp a = (0, 11)) ∧ Ev L xs ρ 184 51 [l0, l1, l2, l3, l4] (rfv (Rm a 44) :: st) (n, I, Lm, Rm) r := ev_gtR cm_184 dX11_newName_48 rfl rfl
theorem x184_51 : Ev L xs ρ 184 51 [l0, some (.int x), l2, l3, l4] st σ r ↔ Ev L xs ρ 184 52 [l0, some (.int x), l2, l3, l4] (.int x :: st) σ r := ev_iload_n cm_184 dX11_newName_51 rfl rfl
theorem x184_52 : Ev L xs ρ 184 52 [l0, l1, l2, l3, l4] (.int x :: .ref a :: st) (n, I, Lm, Rm) r ↔ ((a < n ∧ (shp a).1 = 1) ∧ inb x (shp a).2) ∧ Ev L xs ρ 184 53 [l0, l1, l2, l3, l4] (.int (I a (ixn x)) :: st) (n, I, Lm, Rm) r := ev_iald cm_184 dX11_newName_52 (by decide)
theorem x184_53 : Ev L xs ρ 184 53 [l0, l1, l2, l3, l4] (.int x :: st) σ r ↔ Ev L xs ρ 184 55 [l0, l1, l2, l3, some (.int x)] st σ r := ev_istore cm_184 dX11_newName_53 (Nat.le_of_ble_eq_true rfl)
theorem x184_55 : Ev L xs ρ 184 55 [some (.ref a), l1, l2, l3, l4] st σ r ↔ Ev L xs ρ 184 56 [some (.ref a), l1, l2, l3, l4] (.ref a :: st) σ r := ev_aload_n cm_184 dX11_newName_55 rfl rfl
theorem x184_56 : Ev L xs ρ 184 56 [l0, l1, l2, l3, l4] (.ref a :: st) (n, I, Lm, Rm) r ↔ (a < n ∧ shp a = (0, 11)) ∧ Ev L xs ρ 184 59 [l0, l1, l2, l3, l4] (.int (I a 5) :: st) (n, I, Lm, Rm) r := ev_gtI cm_184 dX11_newName_56 rfl rfl
theorem x184_59 : Ev L xs ρ 184 59 [l0, l1, l2, l3, l4] (.int x :: st) σ r ↔ if x = 0 then Ev L xs ρ 184 65 [l0, l1, l2, l3, l4] st σ r else Ev L xs ρ 184 62 [l0, l1, l2, l3, l4] st σ r := ev_ifeq cm_184 dX11_newName_59 (by decide)
theorem x184_62 : Ev L xs ρ 184 62 [l0, l1, l2, l3, some (.int x)] st σ r ↔ Ev L xs ρ 184 64 [l0, l1, l2, l3, some (.int x)] (.int x :: st) σ r := ev_iload cm_184 dX11_newName_62 rfl
theorem x184_64 : Ev L xs ρ 184 64 [l0, l1, l2, l3, l4] [.int x] σ r ↔ r = (some (.int x), σ) := ev_reti cm_184 dX11_newName_64 rfl
theorem x184_65 : Ev L xs ρ 184 65 [some (.ref a), l1, l2, l3, l4] st σ r ↔ Ev L xs ρ 184 66 [some (.ref a), l1, l2, l3, l4] (.ref a :: st) σ r := ev_aload_n cm_184 dX11_newName_65 rfl rfl
theorem x184_66 : Ev L xs ρ 184 66 [l0, l1, l2, l3, l4] (.ref a :: st) (n, I, Lm, Rm) r ↔ (a < n ∧ shp a = (0, 11)) ∧ Ev L xs ρ 184 69 [l0, l1, l2, l3, l4] (rfv (Rm a 43) :: st) (n, I, Lm, Rm) r := ev_gtR cm_184 dX11_newName_66 rfl rfl
theorem x184_69 : Ev L xs ρ 184 69 [l0, l1, l2, l3, l4] st σ r ↔ Ev L xs ρ 184 71 [l0, l1, l2, l3, l4] (.int (12) :: st) σ r := ev_bipush cm_184 dX11_newName_69 (by decide)
theorem x184_71 : Ev L xs ρ 184 71 [l0, some (.int x), l2, l3, l4] st σ r ↔ Ev L xs ρ 184 72 [l0, some (.int x), l2, l3, l4] (.int x :: st) σ r := ev_iload_n cm_184 dX11_newName_71 rfl rfl
theorem x184_72 : Ev L xs ρ 184 72 [l0, l1, l2, l3, l4] (.int y :: .int x :: st) σ r ↔ Ev L xs ρ 184 73 [l0, l1, l2, l3, l4] (.int (x * y) :: st) σ r := ev_nx (ev_ex cm_184 dX11_newName_72 rfl rfl)
theorem x184_73 : Ev L xs ρ 184 73 [l0, l1, l2, l3, some (.int x)] st σ r ↔ Ev L xs ρ 184 75 [l0, l1, l2, l3, some (.int x)] (.int x :: st) σ r := ev_iload cm_184 dX11_newName_73 rfl
theorem x184_75 : Ev L xs ρ 184 75 [l0, l1, l2, l3, l4] (.int y :: .int x :: st) σ r ↔ Ev L xs ρ 184 76 [l0, l1, l2, l3, l4] (.int (x + y) :: st) σ r := ev_nx (ev_ex cm_184 dX11_newName_75 rfl rfl)
theorem x184_76 : Ev L xs ρ 184 76 [l0, l1, some (.long u), none, l4] st σ r ↔ Ev L xs ρ 184 77 [l0, l1, some (.long u), none, l4] (.long u :: st) σ r := ev_lload_n cm_184 dX11_newName_76 rfl rfl rfl
theorem x184_77 : Ev L xs ρ 184 77 [l0, l1, l2, l3, l4] (.long u :: .int x :: .ref a :: st) (n, I, Lm, Rm) r ↔ ((a < n ∧ (shp a).1 = 3) ∧ inb x (shp a).2) ∧ Ev L xs ρ 184 78 [l0, l1, l2, l3, l4] st (n, I, up2 Lm a (ixn x) u, Rm) r := ev_last cm_184 dX11_newName_77
theorem x184_78 : Ev L xs ρ 184 78 [some (.ref a), l1, l2, l3, l4] st σ r ↔ Ev L xs ρ 184 79 [some (.ref a), l1, l2, l3, l4] (.ref a :: st) σ r := ev_aload_n cm_184 dX11_newName_78 rfl rfl
theorem x184_79 : Ev L xs ρ 184 79 [l0, l1, l2, l3, l4] (.ref a :: st) (n, I, Lm, Rm) r ↔ (a < n ∧ shp a = (0, 11)) ∧ Ev L xs ρ 184 82 [l0, l1, l2, l3, l4] (rfv (Rm a 44) :: st) (n, I, Lm, Rm) r := ev_gtR cm_184 dX11_newName_79 rfl rfl
theorem x184_82 : Ev L xs ρ 184 82 [l0, some (.int x), l2, l3, l4] st σ r ↔ Ev L xs ρ 184 83 [l0, some (.int x), l2, l3, l4] (.int x :: st) σ r := ev_iload_n cm_184 dX11_newName_82 rfl rfl
theorem x184_83 : Ev L xs ρ 184 83 [l0, l1, l2, l3, l4] (.int x :: .ref a :: st) σ r ↔ Ev L xs ρ 184 84 [l0, l1, l2, l3, l4] (.int x :: .ref a :: .int x :: .ref a :: st) σ r := ev_nx (ev_ex cm_184 dX11_newName_83 rfl rfl)
theorem x184_84 : Ev L xs ρ 184 84 [l0, l1, l2, l3, l4] (.int x :: .ref a :: st) (n, I, Lm, Rm) r ↔ ((a < n ∧ (shp a).1 = 1) ∧ inb x (shp a).2) ∧ Ev L xs ρ 184 85 [l0, l1, l2, l3, l4] (.int (I a (ixn x)) :: st) (n, I, Lm, Rm) r := ev_iald cm_184 dX11_newName_84 (by decide)
theorem x184_85 : Ev L xs ρ 184 85 [l0, l1, l2, l3, l4] st σ r ↔ Ev L xs ρ 184 86 [l0, l1, l2, l3, l4] (.int (1) :: st) σ r := ev_iconst cm_184 dX11_newName_85 (by decide)
theorem x184_86 : Ev L xs ρ 184 86 [l0, l1, l2, l3, l4] (.int y :: .int x :: st) σ r ↔ Ev L xs ρ 184 87 [l0, l1, l2, l3, l4] (.int (x + y) :: st) σ r := ev_nx (ev_ex cm_184 dX11_newName_86 rfl rfl)
theorem x184_87 : Ev L xs ρ 184 87 [l0, l1, l2, l3, l4] (.int y :: .int x :: .ref a :: st) (n, I, Lm, Rm) r ↔ ((a < n ∧ (shp a).1 = 1) ∧ inb x (shp a).2) ∧ Ev L xs ρ 184 88 [l0, l1, l2, l3, l4] st (n, up2 I a (ixn x) y, Lm, Rm) r := ev_iast cm_184 dX11_newName_87
theorem x184_88 : Ev L xs ρ 184 88 [l0, l1, l2, l3, some (.int x)] st σ r ↔ Ev L xs ρ 184 90 [l0, l1, l2, l3, some (.int x)] (.int x :: st) σ r := ev_iload cm_184 dX11_newName_88 rfl
theorem x184_90 : Ev L xs ρ 184 90 [l0, l1, l2, l3, l4] [.int x] σ r ↔ r = (some (.int x), σ) := ev_reti cm_184 dX11_newName_90 rfl
theorem cm_185 : mcd 185 = cX11_oneOf := rfl
theorem em_185 : Em L xs 185 [.ref a, .int x] σ r ↔ Ev L xs 4 185 0 [some (.ref a), some (.int x), none, none, none] [] σ r := Iff.rfl
theorem x185_0 : Ev L xs ρ 185 0 [some (.ref a), l1, l2, l3, l4] st σ r ↔ Ev L xs ρ 185 1 [some (.ref a), l1, l2, l3, l4] (.ref a :: st) σ r := ev_aload_n cm_185 dX11_oneOf_0 rfl rfl
theorem x185_1 : Ev L xs 4 185 1 [l0, l1, l2, l3, l4] (.ref a :: []) (n, I, Lm, Rm) r ↔ (a < n ∧ shp a = (0, 11)) ∧ ∃ v n2 I2 L2 R2, Em L xs 181 [.ref a] (n, I, Lm, Rm) (v, n2, I2, L2, R2) ∧ Ev L xs 4 185 4 [l0, l1, l2, l3, l4] (v.toList ++ []) (n2, I2, L2, R2) r := ev_cV cm_185 [] dX11_oneOf_1 rfl rfl rfl rfl (Nat.le_of_ble_eq_true rfl) (rka_lt rfl (by decide)) (Nat.le_of_ble_eq_true rfl)
theorem x185_4 : Ev L xs ρ 185 4 [l0, l1, l2, l3, l4] (.long u :: st) σ r ↔ Ev L xs ρ 185 5 [l0, l1, some (.long u), none, l4] st σ r := ev_lstore_n cm_185 dX11_oneOf_4 rfl (Nat.le_of_ble_eq_true rfl)
theorem x185_5 : Ev L xs ρ 185 5 [some (.ref a), l1, l2, l3, l4] st σ r ↔ Ev L xs ρ 185 6 [some (.ref a), l1, l2, l3, l4] (.ref a :: st) σ r := ev_aload_n cm_185 dX11_oneOf_5 rfl rfl
theorem x185_6 : Ev L xs ρ 185 6 [l0, some (.int x), l2, l3, l4] st σ r ↔ Ev L xs ρ 185 7 [l0, some (.int x), l2, l3, l4] (.int x :: st) σ r := ev_iload_n cm_185 dX11_oneOf_6 rfl rfl
theorem x185_7 : Ev L xs ρ 185 7 [l0, l1, some (.long u), none, l4] st σ r ↔ Ev L xs ρ 185 8 [l0, l1, some (.long u), none, l4] (.long u :: st) σ r := ev_lload_n cm_185 dX11_oneOf_7 rfl rfl rfl
theorem x185_8 : Ev L xs 4 185 8 [l0, l1, l2, l3, l4] (.long u :: .int x :: .ref a :: []) (n, I, Lm, Rm) r ↔ (a < n ∧ shp a = (0, 11)) ∧ ∃ v n2 I2 L2 R2, Em L xs 183 [.ref a, .int x, .long u] (n, I, Lm, Rm) (v, n2, I2, L2, R2) ∧ Ev L xs 4 185 11 [l0, l1, l2, l3, l4] (v.toList ++ []) (n2, I2, L2, R2) r := ev_cV cm_185 [.int x, .long u] dX11_oneOf_8 rfl rfl rfl rfl (Nat.le_of_ble_eq_true rfl) (rka_lt rfl (by decide)) (Nat.le_of_ble_eq_true rfl)
theorem x185_11 : Ev L xs ρ 185 11 [l0, l1, l2, l3, l4] (.int x :: st) σ r ↔ Ev L xs ρ 185 13 [l0, l1, l2, l3, some (.int x)] st σ r := ev_istore cm_185 dX11_oneOf_11 (Nat.le_of_ble_eq_true rfl)
theorem x185_13 : Ev L xs ρ 185 13 [some (.ref a), l1, l2, l3, l4] st σ r ↔ Ev L xs ρ 185 14 [some (.ref a), l1, l2, l3, l4] (.ref a :: st) σ r := ev_aload_n cm_185 dX11_oneOf_13 rfl rfl
theorem x185_14 : Ev L xs ρ 185 14 [l0, l1, l2, l3, l4] (.ref a :: st) (n, I, Lm, Rm) r ↔ (a < n ∧ shp a = (0, 11)) ∧ Ev L xs ρ 185 17 [l0, l1, l2, l3, l4] (.int (I a 5) :: st) (n, I, Lm, Rm) r := ev_gtI cm_185 dX11_oneOf_14 rfl rfl
theorem x185_17 : Ev L xs ρ 185 17 [l0, l1, l2, l3, l4] (.int x :: st) σ r ↔ if x = 0 then Ev L xs ρ 185 20 [l0, l1, l2, l3, l4] st σ r else Ev L xs ρ 185 35 [l0, l1, l2, l3, l4] st σ r := ev_ifne cm_185 dX11_oneOf_17 (by decide)
theorem x185_20 : Ev L xs ρ 185 20 [l0, l1, l2, l3, some (.int x)] st σ r ↔ Ev L xs ρ 185 22 [l0, l1, l2, l3, some (.int x)] (.int x :: st) σ r := ev_iload cm_185 dX11_oneOf_20 rfl
theorem x185_22 : Ev L xs ρ 185 22 [l0, l1, l2, l3, l4] st σ r ↔ Ev L xs ρ 185 23 [l0, l1, l2, l3, l4] (.int (-1) :: st) σ r := ev_iconst cm_185 dX11_oneOf_22 (by decide)
theorem x185_23 : Ev L xs ρ 185 23 [l0, l1, l2, l3, l4] (.int y :: .int x :: st) σ r ↔ if x = y then Ev L xs ρ 185 26 [l0, l1, l2, l3, l4] st σ r else Ev L xs ρ 185 35 [l0, l1, l2, l3, l4] st σ r := ev_icne cm_185 dX11_oneOf_23 (by decide)
theorem x185_26 : Ev L xs ρ 185 26 [some (.ref a), l1, l2, l3, l4] st σ r ↔ Ev L xs ρ 185 27 [some (.ref a), l1, l2, l3, l4] (.ref a :: st) σ r := ev_aload_n cm_185 dX11_oneOf_26 rfl rfl
theorem x185_27 : Ev L xs ρ 185 27 [l0, l1, l2, l3, l4] st σ r ↔ Ev L xs ρ 185 28 [l0, l1, l2, l3, l4] (.int (3) :: st) σ r := ev_iconst cm_185 dX11_oneOf_27 (by decide)
theorem x185_28 : Ev L xs ρ 185 28 [some (.ref a), l1, l2, l3, l4] st σ r ↔ Ev L xs ρ 185 29 [some (.ref a), l1, l2, l3, l4] (.ref a :: st) σ r := ev_aload_n cm_185 dX11_oneOf_28 rfl rfl
theorem x185_29 : Ev L xs ρ 185 29 [l0, l1, l2, l3, l4] (.ref a :: st) (n, I, Lm, Rm) r ↔ (a < n ∧ shp a = (0, 11)) ∧ Ev L xs ρ 185 32 [l0, l1, l2, l3, l4] (.int (I a 42) :: st) (n, I, Lm, Rm) r := ev_gtI cm_185 dX11_oneOf_29 rfl rfl
theorem x185_32 : Ev L xs 4 185 32 [l0, l1, l2, l3, l4] (.int y :: .int x :: .ref a :: []) (n, I, Lm, Rm) r ↔ (a < n ∧ shp a = (0, 11)) ∧ ∃ v n2 I2 L2 R2, Em L xs 170 [.ref a, .int x, .int y] (n, I, Lm, Rm) (v, n2, I2, L2, R2) ∧ Ev L xs 4 185 35 [l0, l1, l2, l3, l4] (v.toList ++ []) (n2, I2, L2, R2) r := ev_cV cm_185 [.int x, .int y] dX11_oneOf_32 rfl rfl rfl rfl (Nat.le_of_ble_eq_true rfl) (rka_lt rfl (by decide)) (Nat.le_of_ble_eq_true rfl)
theorem x185_35 : Ev L xs ρ 185 35 [l0, l1, l2, l3, some (.int x)] st σ r ↔ Ev L xs ρ 185 37 [l0, l1, l2, l3, some (.int x)] (.int x :: st) σ r := ev_iload cm_185 dX11_oneOf_35 rfl
theorem x185_37 : Ev L xs ρ 185 37 [l0, l1, l2, l3, l4] st σ r ↔ Ev L xs ρ 185 38 [l0, l1, l2, l3, l4] (.int (-1) :: st) σ r := ev_iconst cm_185 dX11_oneOf_37 (by decide)
theorem x185_38 : Ev L xs ρ 185 38 [l0, l1, l2, l3, l4] (.int y :: .int x :: st) σ r ↔ if x = y then Ev L xs ρ 185 41 [l0, l1, l2, l3, l4] st σ r else Ev L xs ρ 185 45 [l0, l1, l2, l3, l4] st σ r := ev_icne cm_185 dX11_oneOf_38 (by decide)
theorem x185_41 : Ev L xs ρ 185 41 [l0, l1, l2, l3, l4] st σ r ↔ Ev L xs ρ 185 42 [l0, l1, l2, l3, l4] (.int (0) :: st) σ r := ev_iconst cm_185 dX11_oneOf_41 (by decide)
theorem x185_42 : Ev L xs ρ 185 42 [l0, l1, l2, l3, l4] st σ r ↔ Ev L xs ρ 185 47 [l0, l1, l2, l3, l4] st σ r := ev_goto cm_185 dX11_oneOf_42 (by decide)
theorem x185_45 : Ev L xs ρ 185 45 [l0, l1, l2, l3, some (.int x)] st σ r ↔ Ev L xs ρ 185 47 [l0, l1, l2, l3, some (.int x)] (.int x :: st) σ r := ev_iload cm_185 dX11_oneOf_45 rfl
theorem x185_47 : Ev L xs ρ 185 47 [l0, l1, l2, l3, l4] [.int x] σ r ↔ r = (some (.int x), σ) := ev_reti cm_185 dX11_oneOf_47 rfl
theorem cm_186 : mcd 186 = cX11_isFull := rfl
theorem em_186 : Em L xs 186 [.ref a, .int x, .int y, .int z] σ r ↔ Ev L xs 1 186 0 [some (.ref a), some (.int x), some (.int y), some (.int z)] [] σ r := Iff.rfl
theorem x186_0 : Ev L xs ρ 186 0 [some (.ref a), l1, l2, l3] st σ r ↔ Ev L xs ρ 186 1 [some (.ref a), l1, l2, l3] (.ref a :: st) σ r := ev_aload_n cm_186 dX11_isFull_0 rfl rfl
theorem x186_1 : Ev L xs ρ 186 1 [l0, l1, l2, l3] (.ref a :: st) (n, I, Lm, Rm) r ↔ (a < n ∧ shp a = (0, 11)) ∧ Ev L xs ρ 186 4 [l0, l1, l2, l3] (.int (I a 5) :: st) (n, I, Lm, Rm) r := ev_gtI cm_186 dX11_isFull_1 rfl rfl
theorem x186_4 : Ev L xs ρ 186 4 [l0, l1, l2, l3] (.int x :: st) σ r ↔ if x = 0 then Ev L xs ρ 186 7 [l0, l1, l2, l3] st σ r else Ev L xs ρ 186 18 [l0, l1, l2, l3] st σ r := ev_ifne cm_186 dX11_isFull_4 (by decide)
theorem x186_7 : Ev L xs ρ 186 7 [l0, some (.int x), l2, l3] st σ r ↔ Ev L xs ρ 186 8 [l0, some (.int x), l2, l3] (.int x :: st) σ r := ev_iload_n cm_186 dX11_isFull_7 rfl rfl
theorem x186_8 : Ev L xs ρ 186 8 [l0, l1, some (.int x), l3] st σ r ↔ Ev L xs ρ 186 9 [l0, l1, some (.int x), l3] (.int x :: st) σ r := ev_iload_n cm_186 dX11_isFull_8 rfl rfl
theorem x186_9 : Ev L xs ρ 186 9 [l0, l1, l2, l3] (.int y :: .int x :: st) σ r ↔ if x = y then Ev L xs ρ 186 12 [l0, l1, l2, l3] st σ r else Ev L xs ρ 186 18 [l0, l1, l2, l3] st σ r := ev_icne cm_186 dX11_isFull_9 (by decide)
theorem x186_12 : Ev L xs ρ 186 12 [some (.ref a), l1, l2, l3] st σ r ↔ Ev L xs ρ 186 13 [some (.ref a), l1, l2, l3] (.ref a :: st) σ r := ev_aload_n cm_186 dX11_isFull_12 rfl rfl
theorem x186_13 : Ev L xs ρ 186 13 [l0, l1, l2, l3] st σ r ↔ Ev L xs ρ 186 14 [l0, l1, l2, l3] (.int (5) :: st) σ r := ev_iconst cm_186 dX11_isFull_13 (by decide)
theorem x186_14 : Ev L xs ρ 186 14 [l0, l1, l2, some (.int x)] st σ r ↔ Ev L xs ρ 186 15 [l0, l1, l2, some (.int x)] (.int x :: st) σ r := ev_iload_n cm_186 dX11_isFull_14 rfl rfl
theorem x186_15 : Ev L xs 1 186 15 [l0, l1, l2, l3] (.int y :: .int x :: .ref a :: []) (n, I, Lm, Rm) r ↔ (a < n ∧ shp a = (0, 11)) ∧ ∃ v n2 I2 L2 R2, Em L xs 170 [.ref a, .int x, .int y] (n, I, Lm, Rm) (v, n2, I2, L2, R2) ∧ Ev L xs 1 186 18 [l0, l1, l2, l3] (v.toList ++ []) (n2, I2, L2, R2) r := ev_cV cm_186 [.int x, .int y] dX11_isFull_15 rfl rfl rfl rfl (Nat.le_of_ble_eq_true rfl) (rka_lt rfl (by decide)) (Nat.le_of_ble_eq_true rfl)
theorem x186_18 : Ev L xs ρ 186 18 [some (.ref a), l1, l2, l3] st σ r ↔ Ev L xs ρ 186 19 [some (.ref a), l1, l2, l3] (.ref a :: st) σ r := ev_aload_n cm_186 dX11_isFull_18 rfl rfl
theorem x186_19 : Ev L xs ρ 186 19 [l0, l1, l2, l3] (.ref a :: st) (n, I, Lm, Rm) r ↔ (a < n ∧ shp a = (0, 11)) ∧ Ev L xs ρ 186 22 [l0, l1, l2, l3] (.int (I a 5) :: st) (n, I, Lm, Rm) r := ev_gtI cm_186 dX11_isFull_19 rfl rfl
theorem x186_22 : Ev L xs ρ 186 22 [l0, l1, l2, l3] (.int x :: st) σ r ↔ if x = 0 then Ev L xs ρ 186 29 [l0, l1, l2, l3] st σ r else Ev L xs ρ 186 25 [l0, l1, l2, l3] st σ r := ev_ifeq cm_186 dX11_isFull_22 (by decide)
theorem x186_25 : Ev L xs ρ 186 25 [l0, l1, l2, l3] st σ r ↔ Ev L xs ρ 186 26 [l0, l1, l2, l3] (.int (1) :: st) σ r := ev_iconst cm_186 dX11_isFull_25 (by decide)
theorem x186_26 : Ev L xs ρ 186 26 [l0, l1, l2, l3] st σ r ↔ Ev L xs ρ 186 30 [l0, l1, l2, l3] st σ r := ev_goto cm_186 dX11_isFull_26 (by decide)
theorem x186_29 : Ev L xs ρ 186 29 [l0, l1, l2, l3] st σ r ↔ Ev L xs ρ 186 30 [l0, l1, l2, l3] (.int (0) :: st) σ r := ev_iconst cm_186 dX11_isFull_29 (by decide)
theorem x186_30 : Ev L xs ρ 186 30 [l0, l1, l2, l3] [.int x] σ r ↔ (x = 0 ∨ x = 1) ∧ r = (some (.int x), σ) := ev_retz cm_186 dX11_isFull_30 rfl
theorem cm_187 : mcd 187 = cX11_sortTold := rfl
theorem em_187 : Em L xs 187 [.ref a, .int x] σ r ↔ Ev L xs 5 187 0 [some (.ref a), some (.int x), none] [] σ r := Iff.rfl
theorem x187_0 : Ev L xs ρ 187 0 [some (.ref a), l1, l2] st σ r ↔ Ev L xs ρ 187 1 [some (.ref a), l1, l2] (.ref a :: st) σ r := ev_aload_n cm_187 dX11_sortTold_0 rfl rfl
theorem x187_1 : Ev L xs ρ 187 1 [some (.ref a), l1, l2] st σ r ↔ Ev L xs ρ 187 2 [some (.ref a), l1, l2] (.ref a :: st) σ r := ev_aload_n cm_187 dX11_sortTold_1 rfl rfl
theorem x187_2 : Ev L xs ρ 187 2 [l0, l1, l2] (.ref a :: st) (n, I, Lm, Rm) r ↔ (a < n ∧ shp a = (0, 11)) ∧ Ev L xs ρ 187 5 [l0, l1, l2] (rfv (Rm a 44) :: st) (n, I, Lm, Rm) r := ev_gtR cm_187 dX11_sortTold_2 rfl rfl
theorem x187_5 : Ev L xs ρ 187 5 [l0, l1, l2] st σ r ↔ Ev L xs ρ 187 6 [l0, l1, l2] (.int (0) :: st) σ r := ev_iconst cm_187 dX11_sortTold_5 (by decide)
theorem x187_6 : Ev L xs ρ 187 6 [l0, l1, l2] (.int x :: .ref a :: st) (n, I, Lm, Rm) r ↔ ((a < n ∧ (shp a).1 = 1) ∧ inb x (shp a).2) ∧ Ev L xs ρ 187 7 [l0, l1, l2] (.int (I a (ixn x)) :: st) (n, I, Lm, Rm) r := ev_iald cm_187 dX11_sortTold_6 (by decide)
theorem x187_7 : Ev L xs ρ 187 7 [l0, l1, l2] st σ r ↔ Ev L xs ρ 187 9 [l0, l1, l2] (.int (6) :: st) σ r := ev_bipush cm_187 dX11_sortTold_7 (by decide)
theorem x187_9 : Ev L xs ρ 187 9 [l0, some (.int x), l2] st σ r ↔ Ev L xs ρ 187 10 [l0, some (.int x), l2] (.int x :: st) σ r := ev_iload_n cm_187 dX11_sortTold_9 rfl rfl
theorem x187_10 : Ev L xs 5 187 10 [l0, l1, l2] (.int z :: .int y :: .int x :: .ref a :: []) (n, I, Lm, Rm) r ↔ (a < n ∧ shp a = (0, 11)) ∧ ∃ v n2 I2 L2 R2, Em L xs 186 [.ref a, .int x, .int y, .int z] (n, I, Lm, Rm) (v, n2, I2, L2, R2) ∧ Ev L xs 5 187 13 [l0, l1, l2] (v.toList ++ []) (n2, I2, L2, R2) r := ev_cV cm_187 [.int x, .int y, .int z] dX11_sortTold_10 rfl rfl rfl rfl (Nat.le_of_ble_eq_true rfl) (rka_lt rfl (by decide)) (Nat.le_of_ble_eq_true rfl)
theorem x187_13 : Ev L xs ρ 187 13 [l0, l1, l2] (.int x :: st) σ r ↔ if x = 0 then Ev L xs ρ 187 17 [l0, l1, l2] st σ r else Ev L xs ρ 187 16 [l0, l1, l2] st σ r := ev_ifeq cm_187 dX11_sortTold_13 (by decide)
theorem x187_16 : Ev L xs ρ 187 16 [l0, l1, l2] [] σ r ↔ r = (none, σ) := ev_retv cm_187 dX11_sortTold_16 rfl
theorem x187_17 : Ev L xs ρ 187 17 [l0, l1, l2] st σ r ↔ Ev L xs ρ 187 18 [l0, l1, l2] (.int (5) :: st) σ r := ev_iconst cm_187 dX11_sortTold_17 (by decide)
theorem x187_18 : Ev L xs ρ 187 18 [some (.ref a), l1, l2] st σ r ↔ Ev L xs ρ 187 19 [some (.ref a), l1, l2] (.ref a :: st) σ r := ev_aload_n cm_187 dX11_sortTold_18 rfl rfl
theorem x187_19 : Ev L xs ρ 187 19 [l0, l1, l2] st σ r ↔ Ev L xs ρ 187 20 [l0, l1, l2] (.int (0) :: st) σ r := ev_iconst cm_187 dX11_sortTold_19 (by decide)
theorem x187_20 : Ev L xs 5 187 20 [l0, l1, l2] (.int y :: .ref a :: .int x :: []) (n, I, Lm, Rm) r ↔ (a < n ∧ shp a = (0, 11)) ∧ ∃ v n2 I2 L2 R2, Em L xs 184 [.ref a, .int y] (n, I, Lm, Rm) (v, n2, I2, L2, R2) ∧ Ev L xs 5 187 23 [l0, l1, l2] (v.toList ++ (.int x :: [])) (n2, I2, L2, R2) r := ev_cV cm_187 [.int y] dX11_sortTold_20 rfl rfl rfl rfl (Nat.le_of_ble_eq_true rfl) (rka_lt rfl (by decide)) (Nat.le_of_ble_eq_true rfl)
theorem x187_23 : Ev L xs ρ 187 23 [l0, l1, l2] (.int y :: .int x :: st) σ r ↔ Ev L xs ρ 187 24 [l0, l1, l2] (.int (x * y) :: st) σ r := ev_nx (ev_ex cm_187 dX11_sortTold_23 rfl rfl)
theorem x187_24 : Ev L xs ρ 187 24 [l0, l1, l2] (.int x :: st) σ r ↔ Ev L xs ρ 187 25 [l0, l1, some (.int x)] st σ r := ev_istore_n cm_187 dX11_sortTold_24 rfl (Nat.le_of_ble_eq_true rfl)
theorem x187_25 : Ev L xs ρ 187 25 [some (.ref a), l1, l2] st σ r ↔ Ev L xs ρ 187 26 [some (.ref a), l1, l2] (.ref a :: st) σ r := ev_aload_n cm_187 dX11_sortTold_25 rfl rfl
theorem x187_26 : Ev L xs ρ 187 26 [some (.ref a), l1, l2] st σ r ↔ Ev L xs ρ 187 27 [some (.ref a), l1, l2] (.ref a :: st) σ r := ev_aload_n cm_187 dX11_sortTold_26 rfl rfl
theorem x187_27 : Ev L xs ρ 187 27 [l0, l1, l2] (.ref a :: st) (n, I, Lm, Rm) r ↔ (a < n ∧ shp a = (0, 11)) ∧ Ev L xs ρ 187 30 [l0, l1, l2] (rfv (Rm a 11) :: st) (n, I, Lm, Rm) r := ev_gtR cm_187 dX11_sortTold_27 rfl rfl
theorem x187_30 : Ev L xs 5 187 30 [l0, l1, l2] (.ref b :: .ref a :: []) (n, I, Lm, Rm) r ↔ (a < n ∧ shp a = (0, 11)) ∧ ∃ v n2 I2 L2 R2, Em L xs 176 [.ref a, .ref b] (n, I, Lm, Rm) (v, n2, I2, L2, R2) ∧ Ev L xs 5 187 33 [l0, l1, l2] (v.toList ++ []) (n2, I2, L2, R2) r := ev_cV cm_187 [.ref b] dX11_sortTold_30 rfl rfl rfl rfl (Nat.le_of_ble_eq_true rfl) (rka_lt rfl (by decide)) (Nat.le_of_ble_eq_true rfl)
theorem x187_33 : Ev L xs ρ 187 33 [some (.ref a), l1, l2] st σ r ↔ Ev L xs ρ 187 34 [some (.ref a), l1, l2] (.ref a :: st) σ r := ev_aload_n cm_187 dX11_sortTold_33 rfl rfl
theorem x187_34 : Ev L xs ρ 187 34 [l0, l1, l2] (.ref a :: st) (n, I, Lm, Rm) r ↔ (a < n ∧ shp a = (0, 11)) ∧ Ev L xs ρ 187 37 [l0, l1, l2] (rfv (Rm a 45) :: st) (n, I, Lm, Rm) r := ev_gtR cm_187 dX11_sortTold_34 rfl rfl
theorem x187_37 : Ev L xs ρ 187 37 [l0, l1, some (.int x)] st σ r ↔ Ev L xs ρ 187 38 [l0, l1, some (.int x)] (.int x :: st) σ r := ev_iload_n cm_187 dX11_sortTold_37 rfl rfl
theorem x187_38 : Ev L xs ρ 187 38 [some (.ref a), l1, l2] st σ r ↔ Ev L xs ρ 187 39 [some (.ref a), l1, l2] (.ref a :: st) σ r := ev_aload_n cm_187 dX11_sortTold_38 rfl rfl
theorem x187_39 : Ev L xs ρ 187 39 [l0, l1, l2] st σ r ↔ Ev L xs ρ 187 40 [l0, l1, l2] (.int (0) :: st) σ r := ev_iconst cm_187 dX11_sortTold_39 (by decide)
theorem x187_40 : Ev L xs ρ 187 40 [l0, l1, l2] st σ r ↔ Ev L xs ρ 187 42 [l0, l1, l2] (.int (99) :: st) σ r := ev_bipush cm_187 dX11_sortTold_40 (by decide)
theorem x187_42 : Ev L xs 5 187 42 [l0, l1, l2] (.int z :: .int y :: .ref b :: .int x :: .ref a :: []) (n, I, Lm, Rm) r ↔ (b < n ∧ shp b = (0, 11)) ∧ ∃ v n2 I2 L2 R2, Em L xs 179 [.ref b, .int y, .int z] (n, I, Lm, Rm) (v, n2, I2, L2, R2) ∧ Ev L xs 5 187 45 [l0, l1, l2] (v.toList ++ (.int x :: .ref a :: [])) (n2, I2, L2, R2) r := ev_cV cm_187 [.int y, .int z] dX11_sortTold_42 rfl rfl rfl rfl (Nat.le_of_ble_eq_true rfl) (rka_lt rfl (by decide)) (Nat.le_of_ble_eq_true rfl)
theorem x187_45 : Ev L xs ρ 187 45 [l0, l1, l2] (.int y :: .int x :: .ref a :: st) (n, I, Lm, Rm) r ↔ ((a < n ∧ (shp a).1 = 1) ∧ inb x (shp a).2) ∧ Ev L xs ρ 187 46 [l0, l1, l2] st (n, up2 I a (ixn x) y, Lm, Rm) r := ev_iast cm_187 dX11_sortTold_45
theorem x187_46 : Ev L xs ρ 187 46 [some (.ref a), l1, l2] st σ r ↔ Ev L xs ρ 187 47 [some (.ref a), l1, l2] (.ref a :: st) σ r := ev_aload_n cm_187 dX11_sortTold_46 rfl rfl
theorem x187_47 : Ev L xs ρ 187 47 [some (.ref a), l1, l2] st σ r ↔ Ev L xs ρ 187 48 [some (.ref a), l1, l2] (.ref a :: st) σ r := ev_aload_n cm_187 dX11_sortTold_47 rfl rfl
theorem x187_48 : Ev L xs ρ 187 48 [l0, l1, l2] (.ref a :: st) (n, I, Lm, Rm) r ↔ (a < n ∧ shp a = (0, 11)) ∧ Ev L xs ρ 187 51 [l0, l1, l2] (rfv (Rm a 12) :: st) (n, I, Lm, Rm) r := ev_gtR cm_187 dX11_sortTold_48 rfl rfl
theorem x187_51 : Ev L xs 5 187 51 [l0, l1, l2] (.ref b :: .ref a :: []) (n, I, Lm, Rm) r ↔ (a < n ∧ shp a = (0, 11)) ∧ ∃ v n2 I2 L2 R2, Em L xs 176 [.ref a, .ref b] (n, I, Lm, Rm) (v, n2, I2, L2, R2) ∧ Ev L xs 5 187 54 [l0, l1, l2] (v.toList ++ []) (n2, I2, L2, R2) r := ev_cV cm_187 [.ref b] dX11_sortTold_51 rfl rfl rfl rfl (Nat.le_of_ble_eq_true rfl) (rka_lt rfl (by decide)) (Nat.le_of_ble_eq_true rfl)
theorem x187_54 : Ev L xs ρ 187 54 [some (.ref a), l1, l2] st σ r ↔ Ev L xs ρ 187 55 [some (.ref a), l1, l2] (.ref a :: st) σ r := ev_aload_n cm_187 dX11_sortTold_54 rfl rfl
theorem x187_55 : Ev L xs ρ 187 55 [l0, l1, l2] (.ref a :: st) (n, I, Lm, Rm) r ↔ (a < n ∧ shp a = (0, 11)) ∧ Ev L xs ρ 187 58 [l0, l1, l2] (rfv (Rm a 45) :: st) (n, I, Lm, Rm) r := ev_gtR cm_187 dX11_sortTold_55 rfl rfl
theorem x187_58 : Ev L xs ρ 187 58 [l0, l1, some (.int x)] st σ r ↔ Ev L xs ρ 187 59 [l0, l1, some (.int x)] (.int x :: st) σ r := ev_iload_n cm_187 dX11_sortTold_58 rfl rfl
theorem x187_59 : Ev L xs ρ 187 59 [l0, l1, l2] st σ r ↔ Ev L xs ρ 187 60 [l0, l1, l2] (.int (1) :: st) σ r := ev_iconst cm_187 dX11_sortTold_59 (by decide)
theorem x187_60 : Ev L xs ρ 187 60 [l0, l1, l2] (.int y :: .int x :: st) σ r ↔ Ev L xs ρ 187 61 [l0, l1, l2] (.int (x + y) :: st) σ r := ev_nx (ev_ex cm_187 dX11_sortTold_60 rfl rfl)
theorem x187_61 : Ev L xs ρ 187 61 [some (.ref a), l1, l2] st σ r ↔ Ev L xs ρ 187 62 [some (.ref a), l1, l2] (.ref a :: st) σ r := ev_aload_n cm_187 dX11_sortTold_61 rfl rfl
theorem x187_62 : Ev L xs ρ 187 62 [l0, l1, l2] st σ r ↔ Ev L xs ρ 187 63 [l0, l1, l2] (.int (0) :: st) σ r := ev_iconst cm_187 dX11_sortTold_62 (by decide)
theorem x187_63 : Ev L xs ρ 187 63 [l0, l1, l2] st σ r ↔ Ev L xs ρ 187 65 [l0, l1, l2] (.int (99) :: st) σ r := ev_bipush cm_187 dX11_sortTold_63 (by decide)
theorem x187_65 : Ev L xs 5 187 65 [l0, l1, l2] (.int z :: .int y :: .ref b :: .int x :: .ref a :: []) (n, I, Lm, Rm) r ↔ (b < n ∧ shp b = (0, 11)) ∧ ∃ v n2 I2 L2 R2, Em L xs 179 [.ref b, .int y, .int z] (n, I, Lm, Rm) (v, n2, I2, L2, R2) ∧ Ev L xs 5 187 68 [l0, l1, l2] (v.toList ++ (.int x :: .ref a :: [])) (n2, I2, L2, R2) r := ev_cV cm_187 [.int y, .int z] dX11_sortTold_65 rfl rfl rfl rfl (Nat.le_of_ble_eq_true rfl) (rka_lt rfl (by decide)) (Nat.le_of_ble_eq_true rfl)
theorem x187_68 : Ev L xs ρ 187 68 [l0, l1, l2] (.int y :: .int x :: .ref a :: st) (n, I, Lm, Rm) r ↔ ((a < n ∧ (shp a).1 = 1) ∧ inb x (shp a).2) ∧ Ev L xs ρ 187 69 [l0, l1, l2] st (n, up2 I a (ixn x) y, Lm, Rm) r := ev_iast cm_187 dX11_sortTold_68
theorem x187_69 : Ev L xs ρ 187 69 [some (.ref a), l1, l2] st σ r ↔ Ev L xs ρ 187 70 [some (.ref a), l1, l2] (.ref a :: st) σ r := ev_aload_n cm_187 dX11_sortTold_69 rfl rfl
theorem x187_70 : Ev L xs ρ 187 70 [some (.ref a), l1, l2] st σ r ↔ Ev L xs ρ 187 71 [some (.ref a), l1, l2] (.ref a :: st) σ r := ev_aload_n cm_187 dX11_sortTold_70 rfl rfl
theorem x187_71 : Ev L xs ρ 187 71 [l0, l1, l2] (.ref a :: st) (n, I, Lm, Rm) r ↔ (a < n ∧ shp a = (0, 11)) ∧ Ev L xs ρ 187 74 [l0, l1, l2] (rfv (Rm a 13) :: st) (n, I, Lm, Rm) r := ev_gtR cm_187 dX11_sortTold_71 rfl rfl
theorem x187_74 : Ev L xs 5 187 74 [l0, l1, l2] (.ref b :: .ref a :: []) (n, I, Lm, Rm) r ↔ (a < n ∧ shp a = (0, 11)) ∧ ∃ v n2 I2 L2 R2, Em L xs 176 [.ref a, .ref b] (n, I, Lm, Rm) (v, n2, I2, L2, R2) ∧ Ev L xs 5 187 77 [l0, l1, l2] (v.toList ++ []) (n2, I2, L2, R2) r := ev_cV cm_187 [.ref b] dX11_sortTold_74 rfl rfl rfl rfl (Nat.le_of_ble_eq_true rfl) (rka_lt rfl (by decide)) (Nat.le_of_ble_eq_true rfl)
theorem x187_77 : Ev L xs ρ 187 77 [some (.ref a), l1, l2] st σ r ↔ Ev L xs ρ 187 78 [some (.ref a), l1, l2] (.ref a :: st) σ r := ev_aload_n cm_187 dX11_sortTold_77 rfl rfl
theorem x187_78 : Ev L xs ρ 187 78 [l0, l1, l2] (.ref a :: st) (n, I, Lm, Rm) r ↔ (a < n ∧ shp a = (0, 11)) ∧ Ev L xs ρ 187 81 [l0, l1, l2] (rfv (Rm a 45) :: st) (n, I, Lm, Rm) r := ev_gtR cm_187 dX11_sortTold_78 rfl rfl
theorem x187_81 : Ev L xs ρ 187 81 [l0, l1, some (.int x)] st σ r ↔ Ev L xs ρ 187 82 [l0, l1, some (.int x)] (.int x :: st) σ r := ev_iload_n cm_187 dX11_sortTold_81 rfl rfl
theorem x187_82 : Ev L xs ρ 187 82 [l0, l1, l2] st σ r ↔ Ev L xs ρ 187 83 [l0, l1, l2] (.int (2) :: st) σ r := ev_iconst cm_187 dX11_sortTold_82 (by decide)
theorem x187_83 : Ev L xs ρ 187 83 [l0, l1, l2] (.int y :: .int x :: st) σ r ↔ Ev L xs ρ 187 84 [l0, l1, l2] (.int (x + y) :: st) σ r := ev_nx (ev_ex cm_187 dX11_sortTold_83 rfl rfl)
theorem x187_84 : Ev L xs ρ 187 84 [some (.ref a), l1, l2] st σ r ↔ Ev L xs ρ 187 85 [some (.ref a), l1, l2] (.ref a :: st) σ r := ev_aload_n cm_187 dX11_sortTold_84 rfl rfl
theorem x187_85 : Ev L xs ρ 187 85 [l0, l1, l2] st σ r ↔ Ev L xs ρ 187 86 [l0, l1, l2] (.int (0) :: st) σ r := ev_iconst cm_187 dX11_sortTold_85 (by decide)
theorem x187_86 : Ev L xs ρ 187 86 [l0, l1, l2] st σ r ↔ Ev L xs ρ 187 88 [l0, l1, l2] (.int (100) :: st) σ r := ev_bipush cm_187 dX11_sortTold_86 (by decide)
theorem x187_88 : Ev L xs 5 187 88 [l0, l1, l2] (.int z :: .int y :: .ref b :: .int x :: .ref a :: []) (n, I, Lm, Rm) r ↔ (b < n ∧ shp b = (0, 11)) ∧ ∃ v n2 I2 L2 R2, Em L xs 179 [.ref b, .int y, .int z] (n, I, Lm, Rm) (v, n2, I2, L2, R2) ∧ Ev L xs 5 187 91 [l0, l1, l2] (v.toList ++ (.int x :: .ref a :: [])) (n2, I2, L2, R2) r := ev_cV cm_187 [.int y, .int z] dX11_sortTold_88 rfl rfl rfl rfl (Nat.le_of_ble_eq_true rfl) (rka_lt rfl (by decide)) (Nat.le_of_ble_eq_true rfl)
theorem x187_91 : Ev L xs ρ 187 91 [l0, l1, l2] (.int y :: .int x :: .ref a :: st) (n, I, Lm, Rm) r ↔ ((a < n ∧ (shp a).1 = 1) ∧ inb x (shp a).2) ∧ Ev L xs ρ 187 92 [l0, l1, l2] st (n, up2 I a (ixn x) y, Lm, Rm) r := ev_iast cm_187 dX11_sortTold_91
theorem x187_92 : Ev L xs ρ 187 92 [some (.ref a), l1, l2] st σ r ↔ Ev L xs ρ 187 93 [some (.ref a), l1, l2] (.ref a :: st) σ r := ev_aload_n cm_187 dX11_sortTold_92 rfl rfl
theorem x187_93 : Ev L xs ρ 187 93 [some (.ref a), l1, l2] st σ r ↔ Ev L xs ρ 187 94 [some (.ref a), l1, l2] (.ref a :: st) σ r := ev_aload_n cm_187 dX11_sortTold_93 rfl rfl
theorem x187_94 : Ev L xs ρ 187 94 [l0, l1, l2] (.ref a :: st) (n, I, Lm, Rm) r ↔ (a < n ∧ shp a = (0, 11)) ∧ Ev L xs ρ 187 97 [l0, l1, l2] (rfv (Rm a 14) :: st) (n, I, Lm, Rm) r := ev_gtR cm_187 dX11_sortTold_94 rfl rfl
theorem x187_97 : Ev L xs 5 187 97 [l0, l1, l2] (.ref b :: .ref a :: []) (n, I, Lm, Rm) r ↔ (a < n ∧ shp a = (0, 11)) ∧ ∃ v n2 I2 L2 R2, Em L xs 176 [.ref a, .ref b] (n, I, Lm, Rm) (v, n2, I2, L2, R2) ∧ Ev L xs 5 187 100 [l0, l1, l2] (v.toList ++ []) (n2, I2, L2, R2) r := ev_cV cm_187 [.ref b] dX11_sortTold_97 rfl rfl rfl rfl (Nat.le_of_ble_eq_true rfl) (rka_lt rfl (by decide)) (Nat.le_of_ble_eq_true rfl)
theorem x187_100 : Ev L xs ρ 187 100 [some (.ref a), l1, l2] st σ r ↔ Ev L xs ρ 187 101 [some (.ref a), l1, l2] (.ref a :: st) σ r := ev_aload_n cm_187 dX11_sortTold_100 rfl rfl
theorem x187_101 : Ev L xs ρ 187 101 [l0, l1, l2] (.ref a :: st) (n, I, Lm, Rm) r ↔ (a < n ∧ shp a = (0, 11)) ∧ Ev L xs ρ 187 104 [l0, l1, l2] (rfv (Rm a 45) :: st) (n, I, Lm, Rm) r := ev_gtR cm_187 dX11_sortTold_101 rfl rfl
theorem x187_104 : Ev L xs ρ 187 104 [l0, l1, some (.int x)] st σ r ↔ Ev L xs ρ 187 105 [l0, l1, some (.int x)] (.int x :: st) σ r := ev_iload_n cm_187 dX11_sortTold_104 rfl rfl
theorem x187_105 : Ev L xs ρ 187 105 [l0, l1, l2] st σ r ↔ Ev L xs ρ 187 106 [l0, l1, l2] (.int (3) :: st) σ r := ev_iconst cm_187 dX11_sortTold_105 (by decide)
theorem x187_106 : Ev L xs ρ 187 106 [l0, l1, l2] (.int y :: .int x :: st) σ r ↔ Ev L xs ρ 187 107 [l0, l1, l2] (.int (x + y) :: st) σ r := ev_nx (ev_ex cm_187 dX11_sortTold_106 rfl rfl)
theorem x187_107 : Ev L xs ρ 187 107 [some (.ref a), l1, l2] st σ r ↔ Ev L xs ρ 187 108 [some (.ref a), l1, l2] (.ref a :: st) σ r := ev_aload_n cm_187 dX11_sortTold_107 rfl rfl
theorem x187_108 : Ev L xs ρ 187 108 [l0, l1, l2] st σ r ↔ Ev L xs ρ 187 109 [l0, l1, l2] (.int (0) :: st) σ r := ev_iconst cm_187 dX11_sortTold_108 (by decide)
theorem x187_109 : Ev L xs ρ 187 109 [l0, l1, l2] st σ r ↔ Ev L xs ρ 187 112 [l0, l1, l2] (.int (999) :: st) σ r := ev_sipush cm_187 dX11_sortTold_109 (by decide)
theorem x187_112 : Ev L xs 5 187 112 [l0, l1, l2] (.int z :: .int y :: .ref b :: .int x :: .ref a :: []) (n, I, Lm, Rm) r ↔ (b < n ∧ shp b = (0, 11)) ∧ ∃ v n2 I2 L2 R2, Em L xs 179 [.ref b, .int y, .int z] (n, I, Lm, Rm) (v, n2, I2, L2, R2) ∧ Ev L xs 5 187 115 [l0, l1, l2] (v.toList ++ (.int x :: .ref a :: [])) (n2, I2, L2, R2) r := ev_cV cm_187 [.int y, .int z] dX11_sortTold_112 rfl rfl rfl rfl (Nat.le_of_ble_eq_true rfl) (rka_lt rfl (by decide)) (Nat.le_of_ble_eq_true rfl)
theorem x187_115 : Ev L xs ρ 187 115 [l0, l1, l2] (.int y :: .int x :: .ref a :: st) (n, I, Lm, Rm) r ↔ ((a < n ∧ (shp a).1 = 1) ∧ inb x (shp a).2) ∧ Ev L xs ρ 187 116 [l0, l1, l2] st (n, up2 I a (ixn x) y, Lm, Rm) r := ev_iast cm_187 dX11_sortTold_115
theorem x187_116 : Ev L xs ρ 187 116 [some (.ref a), l1, l2] st σ r ↔ Ev L xs ρ 187 117 [some (.ref a), l1, l2] (.ref a :: st) σ r := ev_aload_n cm_187 dX11_sortTold_116 rfl rfl
theorem x187_117 : Ev L xs ρ 187 117 [some (.ref a), l1, l2] st σ r ↔ Ev L xs ρ 187 118 [some (.ref a), l1, l2] (.ref a :: st) σ r := ev_aload_n cm_187 dX11_sortTold_117 rfl rfl
theorem x187_118 : Ev L xs ρ 187 118 [l0, l1, l2] (.ref a :: st) (n, I, Lm, Rm) r ↔ (a < n ∧ shp a = (0, 11)) ∧ Ev L xs ρ 187 121 [l0, l1, l2] (rfv (Rm a 15) :: st) (n, I, Lm, Rm) r := ev_gtR cm_187 dX11_sortTold_118 rfl rfl
theorem x187_121 : Ev L xs 5 187 121 [l0, l1, l2] (.ref b :: .ref a :: []) (n, I, Lm, Rm) r ↔ (a < n ∧ shp a = (0, 11)) ∧ ∃ v n2 I2 L2 R2, Em L xs 176 [.ref a, .ref b] (n, I, Lm, Rm) (v, n2, I2, L2, R2) ∧ Ev L xs 5 187 124 [l0, l1, l2] (v.toList ++ []) (n2, I2, L2, R2) r := ev_cV cm_187 [.ref b] dX11_sortTold_121 rfl rfl rfl rfl (Nat.le_of_ble_eq_true rfl) (rka_lt rfl (by decide)) (Nat.le_of_ble_eq_true rfl)
theorem x187_124 : Ev L xs ρ 187 124 [some (.ref a), l1, l2] st σ r ↔ Ev L xs ρ 187 125 [some (.ref a), l1, l2] (.ref a :: st) σ r := ev_aload_n cm_187 dX11_sortTold_124 rfl rfl
theorem x187_125 : Ev L xs ρ 187 125 [l0, l1, l2] (.ref a :: st) (n, I, Lm, Rm) r ↔ (a < n ∧ shp a = (0, 11)) ∧ Ev L xs ρ 187 128 [l0, l1, l2] (rfv (Rm a 45) :: st) (n, I, Lm, Rm) r := ev_gtR cm_187 dX11_sortTold_125 rfl rfl
theorem x187_128 : Ev L xs ρ 187 128 [l0, l1, some (.int x)] st σ r ↔ Ev L xs ρ 187 129 [l0, l1, some (.int x)] (.int x :: st) σ r := ev_iload_n cm_187 dX11_sortTold_128 rfl rfl
theorem x187_129 : Ev L xs ρ 187 129 [l0, l1, l2] st σ r ↔ Ev L xs ρ 187 130 [l0, l1, l2] (.int (4) :: st) σ r := ev_iconst cm_187 dX11_sortTold_129 (by decide)
theorem x187_130 : Ev L xs ρ 187 130 [l0, l1, l2] (.int y :: .int x :: st) σ r ↔ Ev L xs ρ 187 131 [l0, l1, l2] (.int (x + y) :: st) σ r := ev_nx (ev_ex cm_187 dX11_sortTold_130 rfl rfl)
theorem x187_131 : Ev L xs ρ 187 131 [some (.ref a), l1, l2] st σ r ↔ Ev L xs ρ 187 132 [some (.ref a), l1, l2] (.ref a :: st) σ r := ev_aload_n cm_187 dX11_sortTold_131 rfl rfl
theorem x187_132 : Ev L xs ρ 187 132 [l0, l1, l2] st σ r ↔ Ev L xs ρ 187 133 [l0, l1, l2] (.int (1) :: st) σ r := ev_iconst cm_187 dX11_sortTold_132 (by decide)
theorem x187_133 : Ev L xs ρ 187 133 [l0, l1, l2] st σ r ↔ Ev L xs ρ 187 135 [l0, l1, l2] (.int (9) :: st) σ r := ev_bipush cm_187 dX11_sortTold_133 (by decide)
theorem x187_135 : Ev L xs 5 187 135 [l0, l1, l2] (.int z :: .int y :: .ref b :: .int x :: .ref a :: []) (n, I, Lm, Rm) r ↔ (b < n ∧ shp b = (0, 11)) ∧ ∃ v n2 I2 L2 R2, Em L xs 179 [.ref b, .int y, .int z] (n, I, Lm, Rm) (v, n2, I2, L2, R2) ∧ Ev L xs 5 187 138 [l0, l1, l2] (v.toList ++ (.int x :: .ref a :: [])) (n2, I2, L2, R2) r := ev_cV cm_187 [.int y, .int z] dX11_sortTold_135 rfl rfl rfl rfl (Nat.le_of_ble_eq_true rfl) (rka_lt rfl (by decide)) (Nat.le_of_ble_eq_true rfl)
theorem x187_138 : Ev L xs ρ 187 138 [l0, l1, l2] (.int y :: .int x :: .ref a :: st) (n, I, Lm, Rm) r ↔ ((a < n ∧ (shp a).1 = 1) ∧ inb x (shp a).2) ∧ Ev L xs ρ 187 139 [l0, l1, l2] st (n, up2 I a (ixn x) y, Lm, Rm) r := ev_iast cm_187 dX11_sortTold_138
theorem x187_139 : Ev L xs ρ 187 139 [l0, l1, l2] [] σ r ↔ r = (none, σ) := ev_retv cm_187 dX11_sortTold_139 rfl
theorem cm_188 : mcd 188 = cX11_hatTold := rfl
theorem em_188 : Em L xs 188 [.ref a, .int x] σ r ↔ Ev L xs 5 188 0 [some (.ref a), some (.int x), none, none] [] σ r := Iff.rfl
theorem x188_0 : Ev L xs ρ 188 0 [some (.ref a), l1, l2, l3] st σ r ↔ Ev L xs ρ 188 1 [some (.ref a), l1, l2, l3] (.ref a :: st) σ r := ev_aload_n cm_188 dX11_hatTold_0 rfl rfl
theorem x188_1 : Ev L xs ρ 188 1 [some (.ref a), l1, l2, l3] st σ r ↔ Ev L xs ρ 188 2 [some (.ref a), l1, l2, l3] (.ref a :: st) σ r := ev_aload_n cm_188 dX11_hatTold_1 rfl rfl
theorem x188_2 : Ev L xs ρ 188 2 [l0, l1, l2, l3] (.ref a :: st) (n, I, Lm, Rm) r ↔ (a < n ∧ shp a = (0, 11)) ∧ Ev L xs ρ 188 5 [l0, l1, l2, l3] (rfv (Rm a 44) :: st) (n, I, Lm, Rm) r := ev_gtR cm_188 dX11_hatTold_2 rfl rfl
theorem x188_5 : Ev L xs ρ 188 5 [l0, l1, l2, l3] st σ r ↔ Ev L xs ρ 188 6 [l0, l1, l2, l3] (.int (1) :: st) σ r := ev_iconst cm_188 dX11_hatTold_5 (by decide)
theorem x188_6 : Ev L xs ρ 188 6 [l0, l1, l2, l3] (.int x :: .ref a :: st) (n, I, Lm, Rm) r ↔ ((a < n ∧ (shp a).1 = 1) ∧ inb x (shp a).2) ∧ Ev L xs ρ 188 7 [l0, l1, l2, l3] (.int (I a (ixn x)) :: st) (n, I, Lm, Rm) r := ev_iald cm_188 dX11_hatTold_6 (by decide)
theorem x188_7 : Ev L xs ρ 188 7 [l0, l1, l2, l3] st σ r ↔ Ev L xs ρ 188 8 [l0, l1, l2, l3] (.int (4) :: st) σ r := ev_iconst cm_188 dX11_hatTold_7 (by decide)
theorem x188_8 : Ev L xs ρ 188 8 [l0, some (.int x), l2, l3] st σ r ↔ Ev L xs ρ 188 9 [l0, some (.int x), l2, l3] (.int x :: st) σ r := ev_iload_n cm_188 dX11_hatTold_8 rfl rfl
theorem x188_9 : Ev L xs 5 188 9 [l0, l1, l2, l3] (.int z :: .int y :: .int x :: .ref a :: []) (n, I, Lm, Rm) r ↔ (a < n ∧ shp a = (0, 11)) ∧ ∃ v n2 I2 L2 R2, Em L xs 186 [.ref a, .int x, .int y, .int z] (n, I, Lm, Rm) (v, n2, I2, L2, R2) ∧ Ev L xs 5 188 12 [l0, l1, l2, l3] (v.toList ++ []) (n2, I2, L2, R2) r := ev_cV cm_188 [.int x, .int y, .int z] dX11_hatTold_9 rfl rfl rfl rfl (Nat.le_of_ble_eq_true rfl) (rka_lt rfl (by decide)) (Nat.le_of_ble_eq_true rfl)
theorem x188_12 : Ev L xs ρ 188 12 [l0, l1, l2, l3] (.int x :: st) σ r ↔ if x = 0 then Ev L xs ρ 188 16 [l0, l1, l2, l3] st σ r else Ev L xs ρ 188 15 [l0, l1, l2, l3] st σ r := ev_ifeq cm_188 dX11_hatTold_12 (by decide)
theorem x188_15 : Ev L xs ρ 188 15 [l0, l1, l2, l3] [] σ r ↔ r = (none, σ) := ev_retv cm_188 dX11_hatTold_15 rfl
theorem x188_16 : Ev L xs ρ 188 16 [l0, l1, l2, l3] st σ r ↔ Ev L xs ρ 188 17 [l0, l1, l2, l3] (.int (4) :: st) σ r := ev_iconst cm_188 dX11_hatTold_16 (by decide)
theorem x188_17 : Ev L xs ρ 188 17 [some (.ref a), l1, l2, l3] st σ r ↔ Ev L xs ρ 188 18 [some (.ref a), l1, l2, l3] (.ref a :: st) σ r := ev_aload_n cm_188 dX11_hatTold_17 rfl rfl
theorem x188_18 : Ev L xs ρ 188 18 [l0, l1, l2, l3] st σ r ↔ Ev L xs ρ 188 19 [l0, l1, l2, l3] (.int (1) :: st) σ r := ev_iconst cm_188 dX11_hatTold_18 (by decide)
theorem x188_19 : Ev L xs 5 188 19 [l0, l1, l2, l3] (.int y :: .ref a :: .int x :: []) (n, I, Lm, Rm) r ↔ (a < n ∧ shp a = (0, 11)) ∧ ∃ v n2 I2 L2 R2, Em L xs 184 [.ref a, .int y] (n, I, Lm, Rm) (v, n2, I2, L2, R2) ∧ Ev L xs 5 188 22 [l0, l1, l2, l3] (v.toList ++ (.int x :: [])) (n2, I2, L2, R2) r := ev_cV cm_188 [.int y] dX11_hatTold_19 rfl rfl rfl rfl (Nat.le_of_ble_eq_true rfl) (rka_lt rfl (by decide)) (Nat.le_of_ble_eq_true rfl)
theorem x188_22 : Ev L xs ρ 188 22 [l0, l1, l2, l3] (.int y :: .int x :: st) σ r ↔ Ev L xs ρ 188 23 [l0, l1, l2, l3] (.int (x * y) :: st) σ r := ev_nx (ev_ex cm_188 dX11_hatTold_22 rfl rfl)
theorem x188_23 : Ev L xs ρ 188 23 [l0, l1, l2, l3] (.int x :: st) σ r ↔ Ev L xs ρ 188 24 [l0, l1, some (.int x), l3] st σ r := ev_istore_n cm_188 dX11_hatTold_23 rfl (Nat.le_of_ble_eq_true rfl)
theorem x188_24 : Ev L xs ρ 188 24 [some (.ref a), l1, l2, l3] st σ r ↔ Ev L xs ρ 188 25 [some (.ref a), l1, l2, l3] (.ref a :: st) σ r := ev_aload_n cm_188 dX11_hatTold_24 rfl rfl
theorem x188_25 : Ev L xs ρ 188 25 [some (.ref a), l1, l2, l3] st σ r ↔ Ev L xs ρ 188 26 [some (.ref a), l1, l2, l3] (.ref a :: st) σ r := ev_aload_n cm_188 dX11_hatTold_25 rfl rfl
theorem x188_26 : Ev L xs ρ 188 26 [l0, l1, l2, l3] (.ref a :: st) (n, I, Lm, Rm) r ↔ (a < n ∧ shp a = (0, 11)) ∧ Ev L xs ρ 188 29 [l0, l1, l2, l3] (rfv (Rm a 17) :: st) (n, I, Lm, Rm) r := ev_gtR cm_188 dX11_hatTold_26 rfl rfl
theorem x188_29 : Ev L xs 5 188 29 [l0, l1, l2, l3] (.ref b :: .ref a :: []) (n, I, Lm, Rm) r ↔ (a < n ∧ shp a = (0, 11)) ∧ ∃ v n2 I2 L2 R2, Em L xs 176 [.ref a, .ref b] (n, I, Lm, Rm) (v, n2, I2, L2, R2) ∧ Ev L xs 5 188 32 [l0, l1, l2, l3] (v.toList ++ []) (n2, I2, L2, R2) r := ev_cV cm_188 [.ref b] dX11_hatTold_29 rfl rfl rfl rfl (Nat.le_of_ble_eq_true rfl) (rka_lt rfl (by decide)) (Nat.le_of_ble_eq_true rfl)
theorem x188_32 : Ev L xs ρ 188 32 [some (.ref a), l1, l2, l3] st σ r ↔ Ev L xs ρ 188 33 [some (.ref a), l1, l2, l3] (.ref a :: st) σ r := ev_aload_n cm_188 dX11_hatTold_32 rfl rfl
theorem x188_33 : Ev L xs ρ 188 33 [l0, l1, l2, l3] (.ref a :: st) (n, I, Lm, Rm) r ↔ (a < n ∧ shp a = (0, 11)) ∧ Ev L xs ρ 188 36 [l0, l1, l2, l3] (rfv (Rm a 46) :: st) (n, I, Lm, Rm) r := ev_gtR cm_188 dX11_hatTold_33 rfl rfl
theorem x188_36 : Ev L xs ρ 188 36 [l0, l1, some (.int x), l3] st σ r ↔ Ev L xs ρ 188 37 [l0, l1, some (.int x), l3] (.int x :: st) σ r := ev_iload_n cm_188 dX11_hatTold_36 rfl rfl
theorem x188_37 : Ev L xs ρ 188 37 [some (.ref a), l1, l2, l3] st σ r ↔ Ev L xs ρ 188 38 [some (.ref a), l1, l2, l3] (.ref a :: st) σ r := ev_aload_n cm_188 dX11_hatTold_37 rfl rfl
theorem x188_38 : Ev L xs ρ 188 38 [l0, l1, l2, l3] st σ r ↔ Ev L xs ρ 188 39 [l0, l1, l2, l3] (.int (0) :: st) σ r := ev_iconst cm_188 dX11_hatTold_38 (by decide)
theorem x188_39 : Ev L xs ρ 188 39 [l0, l1, l2, l3] st σ r ↔ Ev L xs ρ 188 41 [l0, l1, l2, l3] (.int (100) :: st) σ r := ev_bipush cm_188 dX11_hatTold_39 (by decide)
theorem x188_41 : Ev L xs 5 188 41 [l0, l1, l2, l3] (.int z :: .int y :: .ref b :: .int x :: .ref a :: []) (n, I, Lm, Rm) r ↔ (b < n ∧ shp b = (0, 11)) ∧ ∃ v n2 I2 L2 R2, Em L xs 179 [.ref b, .int y, .int z] (n, I, Lm, Rm) (v, n2, I2, L2, R2) ∧ Ev L xs 5 188 44 [l0, l1, l2, l3] (v.toList ++ (.int x :: .ref a :: [])) (n2, I2, L2, R2) r := ev_cV cm_188 [.int y, .int z] dX11_hatTold_41 rfl rfl rfl rfl (Nat.le_of_ble_eq_true rfl) (rka_lt rfl (by decide)) (Nat.le_of_ble_eq_true rfl)
theorem x188_44 : Ev L xs ρ 188 44 [l0, l1, l2, l3] (.int y :: .int x :: .ref a :: st) (n, I, Lm, Rm) r ↔ ((a < n ∧ (shp a).1 = 1) ∧ inb x (shp a).2) ∧ Ev L xs ρ 188 45 [l0, l1, l2, l3] st (n, up2 I a (ixn x) y, Lm, Rm) r := ev_iast cm_188 dX11_hatTold_44
theorem x188_45 : Ev L xs ρ 188 45 [some (.ref a), l1, l2, l3] st σ r ↔ Ev L xs ρ 188 46 [some (.ref a), l1, l2, l3] (.ref a :: st) σ r := ev_aload_n cm_188 dX11_hatTold_45 rfl rfl
theorem x188_46 : Ev L xs ρ 188 46 [some (.ref a), l1, l2, l3] st σ r ↔ Ev L xs ρ 188 47 [some (.ref a), l1, l2, l3] (.ref a :: st) σ r := ev_aload_n cm_188 dX11_hatTold_46 rfl rfl
theorem x188_47 : Ev L xs ρ 188 47 [l0, l1, l2, l3] (.ref a :: st) (n, I, Lm, Rm) r ↔ (a < n ∧ shp a = (0, 11)) ∧ Ev L xs ρ 188 50 [l0, l1, l2, l3] (rfv (Rm a 18) :: st) (n, I, Lm, Rm) r := ev_gtR cm_188 dX11_hatTold_47 rfl rfl
theorem x188_50 : Ev L xs 5 188 50 [l0, l1, l2, l3] (.ref b :: .ref a :: []) (n, I, Lm, Rm) r ↔ (a < n ∧ shp a = (0, 11)) ∧ ∃ v n2 I2 L2 R2, Em L xs 176 [.ref a, .ref b] (n, I, Lm, Rm) (v, n2, I2, L2, R2) ∧ Ev L xs 5 188 53 [l0, l1, l2, l3] (v.toList ++ []) (n2, I2, L2, R2) r := ev_cV cm_188 [.ref b] dX11_hatTold_50 rfl rfl rfl rfl (Nat.le_of_ble_eq_true rfl) (rka_lt rfl (by decide)) (Nat.le_of_ble_eq_true rfl)
theorem x188_53 : Ev L xs ρ 188 53 [some (.ref a), l1, l2, l3] st σ r ↔ Ev L xs ρ 188 54 [some (.ref a), l1, l2, l3] (.ref a :: st) σ r := ev_aload_n cm_188 dX11_hatTold_53 rfl rfl
theorem x188_54 : Ev L xs ρ 188 54 [l0, l1, l2, l3] (.ref a :: st) (n, I, Lm, Rm) r ↔ (a < n ∧ shp a = (0, 11)) ∧ Ev L xs ρ 188 57 [l0, l1, l2, l3] (rfv (Rm a 46) :: st) (n, I, Lm, Rm) r := ev_gtR cm_188 dX11_hatTold_54 rfl rfl
theorem x188_57 : Ev L xs ρ 188 57 [l0, l1, some (.int x), l3] st σ r ↔ Ev L xs ρ 188 58 [l0, l1, some (.int x), l3] (.int x :: st) σ r := ev_iload_n cm_188 dX11_hatTold_57 rfl rfl
theorem x188_58 : Ev L xs ρ 188 58 [l0, l1, l2, l3] st σ r ↔ Ev L xs ρ 188 59 [l0, l1, l2, l3] (.int (1) :: st) σ r := ev_iconst cm_188 dX11_hatTold_58 (by decide)
theorem x188_59 : Ev L xs ρ 188 59 [l0, l1, l2, l3] (.int y :: .int x :: st) σ r ↔ Ev L xs ρ 188 60 [l0, l1, l2, l3] (.int (x + y) :: st) σ r := ev_nx (ev_ex cm_188 dX11_hatTold_59 rfl rfl)
theorem x188_60 : Ev L xs ρ 188 60 [some (.ref a), l1, l2, l3] st σ r ↔ Ev L xs ρ 188 61 [some (.ref a), l1, l2, l3] (.ref a :: st) σ r := ev_aload_n cm_188 dX11_hatTold_60 rfl rfl
theorem x188_61 : Ev L xs ρ 188 61 [l0, l1, l2, l3] st σ r ↔ Ev L xs ρ 188 62 [l0, l1, l2, l3] (.int (0) :: st) σ r := ev_iconst cm_188 dX11_hatTold_61 (by decide)
theorem x188_62 : Ev L xs ρ 188 62 [l0, l1, l2, l3] st σ r ↔ Ev L xs ρ 188 64 [l0, l1, l2, l3] (.int (60) :: st) σ r := ev_bipush cm_188 dX11_hatTold_62 (by decide)
theorem x188_64 : Ev L xs 5 188 64 [l0, l1, l2, l3] (.int z :: .int y :: .ref b :: .int x :: .ref a :: []) (n, I, Lm, Rm) r ↔ (b < n ∧ shp b = (0, 11)) ∧ ∃ v n2 I2 L2 R2, Em L xs 179 [.ref b, .int y, .int z] (n, I, Lm, Rm) (v, n2, I2, L2, R2) ∧ Ev L xs 5 188 67 [l0, l1, l2, l3] (v.toList ++ (.int x :: .ref a :: [])) (n2, I2, L2, R2) r := ev_cV cm_188 [.int y, .int z] dX11_hatTold_64 rfl rfl rfl rfl (Nat.le_of_ble_eq_true rfl) (rka_lt rfl (by decide)) (Nat.le_of_ble_eq_true rfl)
theorem x188_67 : Ev L xs ρ 188 67 [l0, l1, l2, l3] (.int y :: .int x :: .ref a :: st) (n, I, Lm, Rm) r ↔ ((a < n ∧ (shp a).1 = 1) ∧ inb x (shp a).2) ∧ Ev L xs ρ 188 68 [l0, l1, l2, l3] st (n, up2 I a (ixn x) y, Lm, Rm) r := ev_iast cm_188 dX11_hatTold_67
theorem x188_68 : Ev L xs ρ 188 68 [some (.ref a), l1, l2, l3] st σ r ↔ Ev L xs ρ 188 69 [some (.ref a), l1, l2, l3] (.ref a :: st) σ r := ev_aload_n cm_188 dX11_hatTold_68 rfl rfl
theorem x188_69 : Ev L xs ρ 188 69 [some (.ref a), l1, l2, l3] st σ r ↔ Ev L xs ρ 188 70 [some (.ref a), l1, l2, l3] (.ref a :: st) σ r := ev_aload_n cm_188 dX11_hatTold_69 rfl rfl
theorem x188_70 : Ev L xs ρ 188 70 [l0, l1, l2, l3] (.ref a :: st) (n, I, Lm, Rm) r ↔ (a < n ∧ shp a = (0, 11)) ∧ Ev L xs ρ 188 73 [l0, l1, l2, l3] (rfv (Rm a 19) :: st) (n, I, Lm, Rm) r := ev_gtR cm_188 dX11_hatTold_70 rfl rfl
theorem x188_73 : Ev L xs 5 188 73 [l0, l1, l2, l3] (.ref b :: .ref a :: []) (n, I, Lm, Rm) r ↔ (a < n ∧ shp a = (0, 11)) ∧ ∃ v n2 I2 L2 R2, Em L xs 176 [.ref a, .ref b] (n, I, Lm, Rm) (v, n2, I2, L2, R2) ∧ Ev L xs 5 188 76 [l0, l1, l2, l3] (v.toList ++ []) (n2, I2, L2, R2) r := ev_cV cm_188 [.ref b] dX11_hatTold_73 rfl rfl rfl rfl (Nat.le_of_ble_eq_true rfl) (rka_lt rfl (by decide)) (Nat.le_of_ble_eq_true rfl)
theorem x188_76 : Ev L xs ρ 188 76 [some (.ref a), l1, l2, l3] st σ r ↔ Ev L xs ρ 188 77 [some (.ref a), l1, l2, l3] (.ref a :: st) σ r := ev_aload_n cm_188 dX11_hatTold_76 rfl rfl
theorem x188_77 : Ev L xs ρ 188 77 [l0, l1, l2, l3] (.ref a :: st) (n, I, Lm, Rm) r ↔ (a < n ∧ shp a = (0, 11)) ∧ Ev L xs ρ 188 80 [l0, l1, l2, l3] (rfv (Rm a 46) :: st) (n, I, Lm, Rm) r := ev_gtR cm_188 dX11_hatTold_77 rfl rfl
theorem x188_80 : Ev L xs ρ 188 80 [l0, l1, some (.int x), l3] st σ r ↔ Ev L xs ρ 188 81 [l0, l1, some (.int x), l3] (.int x :: st) σ r := ev_iload_n cm_188 dX11_hatTold_80 rfl rfl
theorem x188_81 : Ev L xs ρ 188 81 [l0, l1, l2, l3] st σ r ↔ Ev L xs ρ 188 82 [l0, l1, l2, l3] (.int (2) :: st) σ r := ev_iconst cm_188 dX11_hatTold_81 (by decide)
theorem x188_82 : Ev L xs ρ 188 82 [l0, l1, l2, l3] (.int y :: .int x :: st) σ r ↔ Ev L xs ρ 188 83 [l0, l1, l2, l3] (.int (x + y) :: st) σ r := ev_nx (ev_ex cm_188 dX11_hatTold_82 rfl rfl)
theorem x188_83 : Ev L xs ρ 188 83 [some (.ref a), l1, l2, l3] st σ r ↔ Ev L xs ρ 188 84 [some (.ref a), l1, l2, l3] (.ref a :: st) σ r := ev_aload_n cm_188 dX11_hatTold_83 rfl rfl
theorem x188_84 : Ev L xs ρ 188 84 [l0, l1, l2, l3] st σ r ↔ Ev L xs ρ 188 85 [l0, l1, l2, l3] (.int (0) :: st) σ r := ev_iconst cm_188 dX11_hatTold_84 (by decide)
theorem x188_85 : Ev L xs ρ 188 85 [l0, l1, l2, l3] st σ r ↔ Ev L xs ρ 188 87 [l0, l1, l2, l3] (.int (100) :: st) σ r := ev_bipush cm_188 dX11_hatTold_85 (by decide)
theorem x188_87 : Ev L xs 5 188 87 [l0, l1, l2, l3] (.int z :: .int y :: .ref b :: .int x :: .ref a :: []) (n, I, Lm, Rm) r ↔ (b < n ∧ shp b = (0, 11)) ∧ ∃ v n2 I2 L2 R2, Em L xs 179 [.ref b, .int y, .int z] (n, I, Lm, Rm) (v, n2, I2, L2, R2) ∧ Ev L xs 5 188 90 [l0, l1, l2, l3] (v.toList ++ (.int x :: .ref a :: [])) (n2, I2, L2, R2) r := ev_cV cm_188 [.int y, .int z] dX11_hatTold_87 rfl rfl rfl rfl (Nat.le_of_ble_eq_true rfl) (rka_lt rfl (by decide)) (Nat.le_of_ble_eq_true rfl)
theorem x188_90 : Ev L xs ρ 188 90 [l0, l1, l2, l3] (.int y :: .int x :: .ref a :: st) (n, I, Lm, Rm) r ↔ ((a < n ∧ (shp a).1 = 1) ∧ inb x (shp a).2) ∧ Ev L xs ρ 188 91 [l0, l1, l2, l3] st (n, up2 I a (ixn x) y, Lm, Rm) r := ev_iast cm_188 dX11_hatTold_90
theorem x188_91 : Ev L xs ρ 188 91 [some (.ref a), l1, l2, l3] st σ r ↔ Ev L xs ρ 188 92 [some (.ref a), l1, l2, l3] (.ref a :: st) σ r := ev_aload_n cm_188 dX11_hatTold_91 rfl rfl
theorem x188_92 : Ev L xs ρ 188 92 [some (.ref a), l1, l2, l3] st σ r ↔ Ev L xs ρ 188 93 [some (.ref a), l1, l2, l3] (.ref a :: st) σ r := ev_aload_n cm_188 dX11_hatTold_92 rfl rfl
theorem x188_93 : Ev L xs ρ 188 93 [l0, l1, l2, l3] (.ref a :: st) (n, I, Lm, Rm) r ↔ (a < n ∧ shp a = (0, 11)) ∧ Ev L xs ρ 188 96 [l0, l1, l2, l3] (rfv (Rm a 20) :: st) (n, I, Lm, Rm) r := ev_gtR cm_188 dX11_hatTold_93 rfl rfl
theorem x188_96 : Ev L xs 5 188 96 [l0, l1, l2, l3] (.ref b :: .ref a :: []) (n, I, Lm, Rm) r ↔ (a < n ∧ shp a = (0, 11)) ∧ ∃ v n2 I2 L2 R2, Em L xs 175 [.ref a, .ref b] (n, I, Lm, Rm) (v, n2, I2, L2, R2) ∧ Ev L xs 5 188 99 [l0, l1, l2, l3] (v.toList ++ []) (n2, I2, L2, R2) r := ev_cV cm_188 [.ref b] dX11_hatTold_96 rfl rfl rfl rfl (Nat.le_of_ble_eq_true rfl) (rka_lt rfl (by decide)) (Nat.le_of_ble_eq_true rfl)
theorem x188_99 : Ev L xs ρ 188 99 [l0, l1, l2, l3] (.int x :: st) σ r ↔ if x = 0 then Ev L xs ρ 188 106 [l0, l1, l2, l3] st σ r else Ev L xs ρ 188 102 [l0, l1, l2, l3] st σ r := ev_ifeq cm_188 dX11_hatTold_99 (by decide)
theorem x188_102 : Ev L xs ρ 188 102 [l0, l1, l2, l3] st σ r ↔ Ev L xs ρ 188 103 [l0, l1, l2, l3] (.int (0) :: st) σ r := ev_iconst cm_188 dX11_hatTold_102 (by decide)
theorem x188_103 : Ev L xs ρ 188 103 [l0, l1, l2, l3] st σ r ↔ Ev L xs ρ 188 137 [l0, l1, l2, l3] st σ r := ev_goto cm_188 dX11_hatTold_103 (by decide)
theorem x188_106 : Ev L xs ρ 188 106 [some (.ref a), l1, l2, l3] st σ r ↔ Ev L xs ρ 188 107 [some (.ref a), l1, l2, l3] (.ref a :: st) σ r := ev_aload_n cm_188 dX11_hatTold_106 rfl rfl
theorem x188_107 : Ev L xs ρ 188 107 [some (.ref a), l1, l2, l3] st σ r ↔ Ev L xs ρ 188 108 [some (.ref a), l1, l2, l3] (.ref a :: st) σ r := ev_aload_n cm_188 dX11_hatTold_107 rfl rfl
theorem x188_108 : Ev L xs ρ 188 108 [l0, l1, l2, l3] (.ref a :: st) (n, I, Lm, Rm) r ↔ (a < n ∧ shp a = (0, 11)) ∧ Ev L xs ρ 188 111 [l0, l1, l2, l3] (rfv (Rm a 21) :: st) (n, I, Lm, Rm) r := ev_gtR cm_188 dX11_hatTold_108 rfl rfl
theorem x188_111 : Ev L xs 5 188 111 [l0, l1, l2, l3] (.ref b :: .ref a :: []) (n, I, Lm, Rm) r ↔ (a < n ∧ shp a = (0, 11)) ∧ ∃ v n2 I2 L2 R2, Em L xs 175 [.ref a, .ref b] (n, I, Lm, Rm) (v, n2, I2, L2, R2) ∧ Ev L xs 5 188 114 [l0, l1, l2, l3] (v.toList ++ []) (n2, I2, L2, R2) r := ev_cV cm_188 [.ref b] dX11_hatTold_111 rfl rfl rfl rfl (Nat.le_of_ble_eq_true rfl) (rka_lt rfl (by decide)) (Nat.le_of_ble_eq_true rfl)
theorem x188_114 : Ev L xs ρ 188 114 [l0, l1, l2, l3] (.int x :: st) σ r ↔ if x = 0 then Ev L xs ρ 188 121 [l0, l1, l2, l3] st σ r else Ev L xs ρ 188 117 [l0, l1, l2, l3] st σ r := ev_ifeq cm_188 dX11_hatTold_114 (by decide)
theorem x188_117 : Ev L xs ρ 188 117 [l0, l1, l2, l3] st σ r ↔ Ev L xs ρ 188 118 [l0, l1, l2, l3] (.int (1) :: st) σ r := ev_iconst cm_188 dX11_hatTold_117 (by decide)
theorem x188_118 : Ev L xs ρ 188 118 [l0, l1, l2, l3] st σ r ↔ Ev L xs ρ 188 137 [l0, l1, l2, l3] st σ r := ev_goto cm_188 dX11_hatTold_118 (by decide)
theorem x188_121 : Ev L xs ρ 188 121 [some (.ref a), l1, l2, l3] st σ r ↔ Ev L xs ρ 188 122 [some (.ref a), l1, l2, l3] (.ref a :: st) σ r := ev_aload_n cm_188 dX11_hatTold_121 rfl rfl
theorem x188_122 : Ev L xs ρ 188 122 [some (.ref a), l1, l2, l3] st σ r ↔ Ev L xs ρ 188 123 [some (.ref a), l1, l2, l3] (.ref a :: st) σ r := ev_aload_n cm_188 dX11_hatTold_122 rfl rfl
theorem x188_123 : Ev L xs ρ 188 123 [l0, l1, l2, l3] (.ref a :: st) (n, I, Lm, Rm) r ↔ (a < n ∧ shp a = (0, 11)) ∧ Ev L xs ρ 188 126 [l0, l1, l2, l3] (rfv (Rm a 22) :: st) (n, I, Lm, Rm) r := ev_gtR cm_188 dX11_hatTold_123 rfl rfl
theorem x188_126 : Ev L xs 5 188 126 [l0, l1, l2, l3] (.ref b :: .ref a :: []) (n, I, Lm, Rm) r ↔ (a < n ∧ shp a = (0, 11)) ∧ ∃ v n2 I2 L2 R2, Em L xs 175 [.ref a, .ref b] (n, I, Lm, Rm) (v, n2, I2, L2, R2) ∧ Ev L xs 5 188 129 [l0, l1, l2, l3] (v.toList ++ []) (n2, I2, L2, R2) r := ev_cV cm_188 [.ref b] dX11_hatTold_126 rfl rfl rfl rfl (Nat.le_of_ble_eq_true rfl) (rka_lt rfl (by decide)) (Nat.le_of_ble_eq_true rfl)
theorem x188_129 : Ev L xs ρ 188 129 [l0, l1, l2, l3] (.int x :: st) σ r ↔ if x = 0 then Ev L xs ρ 188 136 [l0, l1, l2, l3] st σ r else Ev L xs ρ 188 132 [l0, l1, l2, l3] st σ r := ev_ifeq cm_188 dX11_hatTold_129 (by decide)
theorem x188_132 : Ev L xs ρ 188 132 [l0, l1, l2, l3] st σ r ↔ Ev L xs ρ 188 133 [l0, l1, l2, l3] (.int (2) :: st) σ r := ev_iconst cm_188 dX11_hatTold_132 (by decide)
theorem x188_133 : Ev L xs ρ 188 133 [l0, l1, l2, l3] st σ r ↔ Ev L xs ρ 188 137 [l0, l1, l2, l3] st σ r := ev_goto cm_188 dX11_hatTold_133 (by decide)
theorem x188_136 : Ev L xs ρ 188 136 [l0, l1, l2, l3] st σ r ↔ Ev L xs ρ 188 137 [l0, l1, l2, l3] (.int (3) :: st) σ r := ev_iconst cm_188 dX11_hatTold_136 (by decide)
theorem x188_137 : Ev L xs ρ 188 137 [l0, l1, l2, l3] (.int x :: st) σ r ↔ Ev L xs ρ 188 138 [l0, l1, l2, some (.int x)] st σ r := ev_istore_n cm_188 dX11_hatTold_137 rfl (Nat.le_of_ble_eq_true rfl)
theorem x188_138 : Ev L xs ρ 188 138 [l0, l1, l2, some (.int x)] st σ r ↔ Ev L xs ρ 188 139 [l0, l1, l2, some (.int x)] (.int x :: st) σ r := ev_iload_n cm_188 dX11_hatTold_138 rfl rfl
theorem x188_139 : Ev L xs ρ 188 139 [l0, l1, l2, l3] st σ r ↔ Ev L xs ρ 188 140 [l0, l1, l2, l3] (.int (3) :: st) σ r := ev_iconst cm_188 dX11_hatTold_139 (by decide)
theorem x188_140 : Ev L xs ρ 188 140 [l0, l1, l2, l3] (.int y :: .int x :: st) σ r ↔ if x = y then Ev L xs ρ 188 143 [l0, l1, l2, l3] st σ r else Ev L xs ρ 188 151 [l0, l1, l2, l3] st σ r := ev_icne cm_188 dX11_hatTold_140 (by decide)
theorem x188_143 : Ev L xs ρ 188 143 [some (.ref a), l1, l2, l3] st σ r ↔ Ev L xs ρ 188 144 [some (.ref a), l1, l2, l3] (.ref a :: st) σ r := ev_aload_n cm_188 dX11_hatTold_143 rfl rfl
theorem x188_144 : Ev L xs ρ 188 144 [some (.ref a), l1, l2, l3] st σ r ↔ Ev L xs ρ 188 145 [some (.ref a), l1, l2, l3] (.ref a :: st) σ r := ev_aload_n cm_188 dX11_hatTold_144 rfl rfl
theorem x188_145 : Ev L xs ρ 188 145 [l0, l1, l2, l3] (.ref a :: st) (n, I, Lm, Rm) r ↔ (a < n ∧ shp a = (0, 11)) ∧ Ev L xs ρ 188 148 [l0, l1, l2, l3] (rfv (Rm a 23) :: st) (n, I, Lm, Rm) r := ev_gtR cm_188 dX11_hatTold_145 rfl rfl
theorem x188_148 : Ev L xs 5 188 148 [l0, l1, l2, l3] (.ref b :: .ref a :: []) (n, I, Lm, Rm) r ↔ (a < n ∧ shp a = (0, 11)) ∧ ∃ v n2 I2 L2 R2, Em L xs 176 [.ref a, .ref b] (n, I, Lm, Rm) (v, n2, I2, L2, R2) ∧ Ev L xs 5 188 151 [l0, l1, l2, l3] (v.toList ++ []) (n2, I2, L2, R2) r := ev_cV cm_188 [.ref b] dX11_hatTold_148 rfl rfl rfl rfl (Nat.le_of_ble_eq_true rfl) (rka_lt rfl (by decide)) (Nat.le_of_ble_eq_true rfl)
theorem x188_151 : Ev L xs ρ 188 151 [some (.ref a), l1, l2, l3] st σ r ↔ Ev L xs ρ 188 152 [some (.ref a), l1, l2, l3] (.ref a :: st) σ r := ev_aload_n cm_188 dX11_hatTold_151 rfl rfl
theorem x188_152 : Ev L xs ρ 188 152 [l0, l1, l2, l3] (.ref a :: st) (n, I, Lm, Rm) r ↔ (a < n ∧ shp a = (0, 11)) ∧ Ev L xs ρ 188 155 [l0, l1, l2, l3] (rfv (Rm a 46) :: st) (n, I, Lm, Rm) r := ev_gtR cm_188 dX11_hatTold_152 rfl rfl
theorem x188_155 : Ev L xs ρ 188 155 [l0, l1, some (.int x), l3] st σ r ↔ Ev L xs ρ 188 156 [l0, l1, some (.int x), l3] (.int x :: st) σ r := ev_iload_n cm_188 dX11_hatTold_155 rfl rfl
theorem x188_156 : Ev L xs ρ 188 156 [l0, l1, l2, l3] st σ r ↔ Ev L xs ρ 188 157 [l0, l1, l2, l3] (.int (3) :: st) σ r := ev_iconst cm_188 dX11_hatTold_156 (by decide)
theorem x188_157 : Ev L xs ρ 188 157 [l0, l1, l2, l3] (.int y :: .int x :: st) σ r ↔ Ev L xs ρ 188 158 [l0, l1, l2, l3] (.int (x + y) :: st) σ r := ev_nx (ev_ex cm_188 dX11_hatTold_157 rfl rfl)
theorem x188_158 : Ev L xs ρ 188 158 [l0, l1, l2, some (.int x)] st σ r ↔ Ev L xs ρ 188 159 [l0, l1, l2, some (.int x)] (.int x :: st) σ r := ev_iload_n cm_188 dX11_hatTold_158 rfl rfl
theorem x188_159 : Ev L xs ρ 188 159 [l0, l1, l2, l3] (.int y :: .int x :: .ref a :: st) (n, I, Lm, Rm) r ↔ ((a < n ∧ (shp a).1 = 1) ∧ inb x (shp a).2) ∧ Ev L xs ρ 188 160 [l0, l1, l2, l3] st (n, up2 I a (ixn x) y, Lm, Rm) r := ev_iast cm_188 dX11_hatTold_159
theorem x188_160 : Ev L xs ρ 188 160 [l0, l1, l2, l3] [] σ r ↔ r = (none, σ) := ev_retv cm_188 dX11_hatTold_160 rfl
theorem cm_189 : mcd 189 = cX11_personTold := rfl
theorem em_189 : Em L xs 189 [.ref a, .int x] σ r ↔ Ev L xs 5 189 0 [some (.ref a), some (.int x), none] [] σ r := Iff.rfl
theorem x189_0 : Ev L xs ρ 189 0 [some (.ref a), l1, l2] st σ r ↔ Ev L xs ρ 189 1 [some (.ref a), l1, l2] (.ref a :: st) σ r := ev_aload_n cm_189 dX11_personTold_0 rfl rfl
theorem x189_1 : Ev L xs ρ 189 1 [some (.ref a), l1, l2] st σ r ↔ Ev L xs ρ 189 2 [some (.ref a), l1, l2] (.ref a :: st) σ r := ev_aload_n cm_189 dX11_personTold_1 rfl rfl
theorem x189_2 : Ev L xs ρ 189 2 [l0, l1, l2] (.ref a :: st) (n, I, Lm, Rm) r ↔ (a < n ∧ shp a = (0, 11)) ∧ Ev L xs ρ 189 5 [l0, l1, l2] (rfv (Rm a 44) :: st) (n, I, Lm, Rm) r := ev_gtR cm_189 dX11_personTold_2 rfl rfl
theorem x189_5 : Ev L xs ρ 189 5 [l0, l1, l2] st σ r ↔ Ev L xs ρ 189 6 [l0, l1, l2] (.int (2) :: st) σ r := ev_iconst cm_189 dX11_personTold_5 (by decide)
theorem x189_6 : Ev L xs ρ 189 6 [l0, l1, l2] (.int x :: .ref a :: st) (n, I, Lm, Rm) r ↔ ((a < n ∧ (shp a).1 = 1) ∧ inb x (shp a).2) ∧ Ev L xs ρ 189 7 [l0, l1, l2] (.int (I a (ixn x)) :: st) (n, I, Lm, Rm) r := ev_iald cm_189 dX11_personTold_6 (by decide)
theorem x189_7 : Ev L xs ρ 189 7 [l0, l1, l2] st σ r ↔ Ev L xs ρ 189 9 [l0, l1, l2] (.int (12) :: st) σ r := ev_bipush cm_189 dX11_personTold_7 (by decide)
theorem x189_9 : Ev L xs ρ 189 9 [l0, some (.int x), l2] st σ r ↔ Ev L xs ρ 189 10 [l0, some (.int x), l2] (.int x :: st) σ r := ev_iload_n cm_189 dX11_personTold_9 rfl rfl
theorem x189_10 : Ev L xs 5 189 10 [l0, l1, l2] (.int z :: .int y :: .int x :: .ref a :: []) (n, I, Lm, Rm) r ↔ (a < n ∧ shp a = (0, 11)) ∧ ∃ v n2 I2 L2 R2, Em L xs 186 [.ref a, .int x, .int y, .int z] (n, I, Lm, Rm) (v, n2, I2, L2, R2) ∧ Ev L xs 5 189 13 [l0, l1, l2] (v.toList ++ []) (n2, I2, L2, R2) r := ev_cV cm_189 [.int x, .int y, .int z] dX11_personTold_10 rfl rfl rfl rfl (Nat.le_of_ble_eq_true rfl) (rka_lt rfl (by decide)) (Nat.le_of_ble_eq_true rfl)
theorem x189_13 : Ev L xs ρ 189 13 [l0, l1, l2] (.int x :: st) σ r ↔ if x = 0 then Ev L xs ρ 189 17 [l0, l1, l2] st σ r else Ev L xs ρ 189 16 [l0, l1, l2] st σ r := ev_ifeq cm_189 dX11_personTold_13 (by decide)
theorem x189_16 : Ev L xs ρ 189 16 [l0, l1, l2] [] σ r ↔ r = (none, σ) := ev_retv cm_189 dX11_personTold_16 rfl
theorem x189_17 : Ev L xs ρ 189 17 [some (.ref a), l1, l2] st σ r ↔ Ev L xs ρ 189 18 [some (.ref a), l1, l2] (.ref a :: st) σ r := ev_aload_n cm_189 dX11_personTold_17 rfl rfl
theorem x189_18 : Ev L xs ρ 189 18 [l0, l1, l2] st σ r ↔ Ev L xs ρ 189 19 [l0, l1, l2] (.int (2) :: st) σ r := ev_iconst cm_189 dX11_personTold_18 (by decide)
theorem x189_19 : Ev L xs 5 189 19 [l0, l1, l2] (.int x :: .ref a :: []) (n, I, Lm, Rm) r ↔ (a < n ∧ shp a = (0, 11)) ∧ ∃ v n2 I2 L2 R2, Em L xs 184 [.ref a, .int x] (n, I, Lm, Rm) (v, n2, I2, L2, R2) ∧ Ev L xs 5 189 22 [l0, l1, l2] (v.toList ++ []) (n2, I2, L2, R2) r := ev_cV cm_189 [.int x] dX11_personTold_19 rfl rfl rfl rfl (Nat.le_of_ble_eq_true rfl) (rka_lt rfl (by decide)) (Nat.le_of_ble_eq_true rfl)
theorem x189_22 : Ev L xs ρ 189 22 [l0, l1, l2] (.int x :: st) σ r ↔ Ev L xs ρ 189 23 [l0, l1, some (.int x)] st σ r := ev_istore_n cm_189 dX11_personTold_22 rfl (Nat.le_of_ble_eq_true rfl)
theorem x189_23 : Ev L xs ρ 189 23 [some (.ref a), l1, l2] st σ r ↔ Ev L xs ρ 189 24 [some (.ref a), l1, l2] (.ref a :: st) σ r := ev_aload_n cm_189 dX11_personTold_23 rfl rfl
theorem x189_24 : Ev L xs ρ 189 24 [some (.ref a), l1, l2] st σ r ↔ Ev L xs ρ 189 25 [some (.ref a), l1, l2] (.ref a :: st) σ r := ev_aload_n cm_189 dX11_personTold_24 rfl rfl
theorem x189_25 : Ev L xs ρ 189 25 [l0, l1, l2] (.ref a :: st) (n, I, Lm, Rm) r ↔ (a < n ∧ shp a = (0, 11)) ∧ Ev L xs ρ 189 28 [l0, l1, l2] (rfv (Rm a 10) :: st) (n, I, Lm, Rm) r := ev_gtR cm_189 dX11_personTold_25 rfl rfl
theorem x189_28 : Ev L xs 5 189 28 [l0, l1, l2] (.ref b :: .ref a :: []) (n, I, Lm, Rm) r ↔ (a < n ∧ shp a = (0, 11)) ∧ ∃ v n2 I2 L2 R2, Em L xs 176 [.ref a, .ref b] (n, I, Lm, Rm) (v, n2, I2, L2, R2) ∧ Ev L xs 5 189 31 [l0, l1, l2] (v.toList ++ []) (n2, I2, L2, R2) r := ev_cV cm_189 [.ref b] dX11_personTold_28 rfl rfl rfl rfl (Nat.le_of_ble_eq_true rfl) (rka_lt rfl (by decide)) (Nat.le_of_ble_eq_true rfl)
theorem x189_31 : Ev L xs ρ 189 31 [some (.ref a), l1, l2] st σ r ↔ Ev L xs ρ 189 32 [some (.ref a), l1, l2] (.ref a :: st) σ r := ev_aload_n cm_189 dX11_personTold_31 rfl rfl
theorem x189_32 : Ev L xs ρ 189 32 [l0, l1, l2] (.ref a :: st) (n, I, Lm, Rm) r ↔ (a < n ∧ shp a = (0, 11)) ∧ Ev L xs ρ 189 35 [l0, l1, l2] (rfv (Rm a 47) :: st) (n, I, Lm, Rm) r := ev_gtR cm_189 dX11_personTold_32 rfl rfl
theorem x189_35 : Ev L xs ρ 189 35 [l0, l1, some (.int x)] st σ r ↔ Ev L xs ρ 189 36 [l0, l1, some (.int x)] (.int x :: st) σ r := ev_iload_n cm_189 dX11_personTold_35 rfl rfl
theorem x189_36 : Ev L xs ρ 189 36 [some (.ref a), l1, l2] st σ r ↔ Ev L xs ρ 189 37 [some (.ref a), l1, l2] (.ref a :: st) σ r := ev_aload_n cm_189 dX11_personTold_36 rfl rfl
theorem x189_37 : Ev L xs ρ 189 37 [l0, l1, l2] st σ r ↔ Ev L xs ρ 189 38 [l0, l1, l2] (.int (0) :: st) σ r := ev_iconst cm_189 dX11_personTold_37 (by decide)
theorem x189_38 : Ev L xs 5 189 38 [l0, l1, l2] (.int y :: .ref b :: .int x :: .ref a :: []) (n, I, Lm, Rm) r ↔ (b < n ∧ shp b = (0, 11)) ∧ ∃ v n2 I2 L2 R2, Em L xs 185 [.ref b, .int y] (n, I, Lm, Rm) (v, n2, I2, L2, R2) ∧ Ev L xs 5 189 41 [l0, l1, l2] (v.toList ++ (.int x :: .ref a :: [])) (n2, I2, L2, R2) r := ev_cV cm_189 [.int y] dX11_personTold_38 rfl rfl rfl rfl (Nat.le_of_ble_eq_true rfl) (rka_lt rfl (by decide)) (Nat.le_of_ble_eq_true rfl)
theorem x189_41 : Ev L xs ρ 189 41 [l0, l1, l2] (.int y :: .int x :: .ref a :: st) (n, I, Lm, Rm) r ↔ ((a < n ∧ (shp a).1 = 1) ∧ inb x (shp a).2) ∧ Ev L xs ρ 189 42 [l0, l1, l2] st (n, up2 I a (ixn x) y, Lm, Rm) r := ev_iast cm_189 dX11_personTold_41
theorem x189_42 : Ev L xs ρ 189 42 [some (.ref a), l1, l2] st σ r ↔ Ev L xs ρ 189 43 [some (.ref a), l1, l2] (.ref a :: st) σ r := ev_aload_n cm_189 dX11_personTold_42 rfl rfl
theorem x189_43 : Ev L xs ρ 189 43 [l0, l1, l2] (.ref a :: st) (n, I, Lm, Rm) r ↔ (a < n ∧ shp a = (0, 11)) ∧ Ev L xs ρ 189 46 [l0, l1, l2] (rfv (Rm a 48) :: st) (n, I, Lm, Rm) r := ev_gtR cm_189 dX11_personTold_43 rfl rfl
theorem x189_46 : Ev L xs ρ 189 46 [l0, l1, some (.int x)] st σ r ↔ Ev L xs ρ 189 47 [l0, l1, some (.int x)] (.int x :: st) σ r := ev_iload_n cm_189 dX11_personTold_46 rfl rfl
theorem x189_47 : Ev L xs ρ 189 47 [l0, l1, l2] st σ r ↔ Ev L xs ρ 189 48 [l0, l1, l2] (.int (-1) :: st) σ r := ev_iconst cm_189 dX11_personTold_47 (by decide)
theorem x189_48 : Ev L xs ρ 189 48 [l0, l1, l2] (.int y :: .int x :: .ref a :: st) (n, I, Lm, Rm) r ↔ ((a < n ∧ (shp a).1 = 1) ∧ inb x (shp a).2) ∧ Ev L xs ρ 189 49 [l0, l1, l2] st (n, up2 I a (ixn x) y, Lm, Rm) r := ev_iast cm_189 dX11_personTold_48
theorem x189_49 : Ev L xs ρ 189 49 [some (.ref a), l1, l2] st σ r ↔ Ev L xs ρ 189 50 [some (.ref a), l1, l2] (.ref a :: st) σ r := ev_aload_n cm_189 dX11_personTold_49 rfl rfl
theorem x189_50 : Ev L xs ρ 189 50 [l0, l1, l2] (.ref a :: st) (n, I, Lm, Rm) r ↔ (a < n ∧ shp a = (0, 11)) ∧ Ev L xs ρ 189 53 [l0, l1, l2] (rfv (Rm a 49) :: st) (n, I, Lm, Rm) r := ev_gtR cm_189 dX11_personTold_50 rfl rfl
theorem x189_53 : Ev L xs ρ 189 53 [l0, l1, some (.int x)] st σ r ↔ Ev L xs ρ 189 54 [l0, l1, some (.int x)] (.int x :: st) σ r := ev_iload_n cm_189 dX11_personTold_53 rfl rfl
theorem x189_54 : Ev L xs ρ 189 54 [l0, l1, l2] st σ r ↔ Ev L xs ρ 189 55 [l0, l1, l2] (.int (-1) :: st) σ r := ev_iconst cm_189 dX11_personTold_54 (by decide)
theorem x189_55 : Ev L xs ρ 189 55 [l0, l1, l2] (.int y :: .int x :: .ref a :: st) (n, I, Lm, Rm) r ↔ ((a < n ∧ (shp a).1 = 1) ∧ inb x (shp a).2) ∧ Ev L xs ρ 189 56 [l0, l1, l2] st (n, up2 I a (ixn x) y, Lm, Rm) r := ev_iast cm_189 dX11_personTold_55
theorem x189_56 : Ev L xs ρ 189 56 [l0, l1, l2] [] σ r ↔ r = (none, σ) := ev_retv cm_189 dX11_personTold_56 rfl
theorem cm_190 : mcd 190 = cX11_inTold := rfl
theorem em_190 : Em L xs 190 [.ref a] σ r ↔ Ev L xs 5 190 0 [some (.ref a), none, none] [] σ r := Iff.rfl
theorem x190_0 : Ev L xs ρ 190 0 [some (.ref a), l1, l2] st σ r ↔ Ev L xs ρ 190 1 [some (.ref a), l1, l2] (.ref a :: st) σ r := ev_aload_n cm_190 dX11_inTold_0 rfl rfl
theorem x190_1 : Ev L xs ρ 190 1 [l0, l1, l2] st σ r ↔ Ev L xs ρ 190 2 [l0, l1, l2] (.int (2) :: st) σ r := ev_iconst cm_190 dX11_inTold_1 (by decide)
theorem x190_2 : Ev L xs 5 190 2 [l0, l1, l2] (.int x :: .ref a :: []) (n, I, Lm, Rm) r ↔ (a < n ∧ shp a = (0, 11)) ∧ ∃ v n2 I2 L2 R2, Em L xs 185 [.ref a, .int x] (n, I, Lm, Rm) (v, n2, I2, L2, R2) ∧ Ev L xs 5 190 5 [l0, l1, l2] (v.toList ++ []) (n2, I2, L2, R2) r := ev_cV cm_190 [.int x] dX11_inTold_2 rfl rfl rfl rfl (Nat.le_of_ble_eq_true rfl) (rka_lt rfl (by decide)) (Nat.le_of_ble_eq_true rfl)
theorem x190_5 : Ev L xs ρ 190 5 [l0, l1, l2] (.int x :: st) σ r ↔ Ev L xs ρ 190 6 [l0, some (.int x), l2] st σ r := ev_istore_n cm_190 dX11_inTold_5 rfl (Nat.le_of_ble_eq_true rfl)
theorem x190_6 : Ev L xs ρ 190 6 [some (.ref a), l1, l2] st σ r ↔ Ev L xs ρ 190 7 [some (.ref a), l1, l2] (.ref a :: st) σ r := ev_aload_n cm_190 dX11_inTold_6 rfl rfl
theorem x190_7 : Ev L xs ρ 190 7 [l0, l1, l2] st σ r ↔ Ev L xs ρ 190 8 [l0, l1, l2] (.int (1) :: st) σ r := ev_iconst cm_190 dX11_inTold_7 (by decide)
theorem x190_8 : Ev L xs 5 190 8 [l0, l1, l2] (.int x :: .ref a :: []) (n, I, Lm, Rm) r ↔ (a < n ∧ shp a = (0, 11)) ∧ ∃ v n2 I2 L2 R2, Em L xs 185 [.ref a, .int x] (n, I, Lm, Rm) (v, n2, I2, L2, R2) ∧ Ev L xs 5 190 11 [l0, l1, l2] (v.toList ++ []) (n2, I2, L2, R2) r := ev_cV cm_190 [.int x] dX11_inTold_8 rfl rfl rfl rfl (Nat.le_of_ble_eq_true rfl) (rka_lt rfl (by decide)) (Nat.le_of_ble_eq_true rfl)
theorem x190_11 : Ev L xs ρ 190 11 [l0, l1, l2] (.int x :: st) σ r ↔ Ev L xs ρ 190 12 [l0, l1, some (.int x)] st σ r := ev_istore_n cm_190 dX11_inTold_11 rfl (Nat.le_of_ble_eq_true rfl)
theorem x190_12 : Ev L xs ρ 190 12 [some (.ref a), l1, l2] st σ r ↔ Ev L xs ρ 190 13 [some (.ref a), l1, l2] (.ref a :: st) σ r := ev_aload_n cm_190 dX11_inTold_12 rfl rfl
theorem x190_13 : Ev L xs ρ 190 13 [l0, l1, l2] (.ref a :: st) (n, I, Lm, Rm) r ↔ (a < n ∧ shp a = (0, 11)) ∧ Ev L xs ρ 190 16 [l0, l1, l2] (.int (I a 5) :: st) (n, I, Lm, Rm) r := ev_gtI cm_190 dX11_inTold_13 rfl rfl
theorem x190_16 : Ev L xs ρ 190 16 [l0, l1, l2] (.int x :: st) σ r ↔ if x = 0 then Ev L xs ρ 190 19 [l0, l1, l2] st σ r else Ev L xs ρ 190 26 [l0, l1, l2] st σ r := ev_ifne cm_190 dX11_inTold_16 (by decide)
theorem x190_19 : Ev L xs ρ 190 19 [some (.ref a), l1, l2] st σ r ↔ Ev L xs ρ 190 20 [some (.ref a), l1, l2] (.ref a :: st) σ r := ev_aload_n cm_190 dX11_inTold_19 rfl rfl
theorem x190_20 : Ev L xs ρ 190 20 [l0, l1, l2] (.ref a :: st) (n, I, Lm, Rm) r ↔ (a < n ∧ shp a = (0, 11)) ∧ Ev L xs ρ 190 23 [l0, l1, l2] (rfv (Rm a 48) :: st) (n, I, Lm, Rm) r := ev_gtR cm_190 dX11_inTold_20 rfl rfl
theorem x190_23 : Ev L xs ρ 190 23 [l0, some (.int x), l2] st σ r ↔ Ev L xs ρ 190 24 [l0, some (.int x), l2] (.int x :: st) σ r := ev_iload_n cm_190 dX11_inTold_23 rfl rfl
theorem x190_24 : Ev L xs ρ 190 24 [l0, l1, some (.int x)] st σ r ↔ Ev L xs ρ 190 25 [l0, l1, some (.int x)] (.int x :: st) σ r := ev_iload_n cm_190 dX11_inTold_24 rfl rfl
theorem x190_25 : Ev L xs ρ 190 25 [l0, l1, l2] (.int y :: .int x :: .ref a :: st) (n, I, Lm, Rm) r ↔ ((a < n ∧ (shp a).1 = 1) ∧ inb x (shp a).2) ∧ Ev L xs ρ 190 26 [l0, l1, l2] st (n, up2 I a (ixn x) y, Lm, Rm) r := ev_iast cm_190 dX11_inTold_25
theorem x190_26 : Ev L xs ρ 190 26 [l0, l1, l2] [] σ r ↔ r = (none, σ) := ev_retv cm_190 dX11_inTold_26 rfl
theorem cm_191 : mcd 191 = cX11_unpaired := rfl
theorem em_191 : Em L xs 191 [.ref a, .int x] σ r ↔ Ev L xs 5 191 0 [some (.ref a), some (.int x), none] [] σ r := Iff.rfl
theorem x191_0 : Ev L xs ρ 191 0 [some (.ref a), l1, l2] st σ r ↔ Ev L xs ρ 191 1 [some (.ref a), l1, l2] (.ref a :: st) σ r := ev_aload_n cm_191 dX11_unpaired_0 rfl rfl
theorem x191_1 : Ev L xs ρ 191 1 [l0, l1, l2] st σ r ↔ Ev L xs ρ 191 2 [l0, l1, l2] (.int (2) :: st) σ r := ev_iconst cm_191 dX11_unpaired_1 (by decide)
theorem x191_2 : Ev L xs 5 191 2 [l0, l1, l2] (.int x :: .ref a :: []) (n, I, Lm, Rm) r ↔ (a < n ∧ shp a = (0, 11)) ∧ ∃ v n2 I2 L2 R2, Em L xs 185 [.ref a, .int x] (n, I, Lm, Rm) (v, n2, I2, L2, R2) ∧ Ev L xs 5 191 5 [l0, l1, l2] (v.toList ++ []) (n2, I2, L2, R2) r := ev_cV cm_191 [.int x] dX11_unpaired_2 rfl rfl rfl rfl (Nat.le_of_ble_eq_true rfl) (rka_lt rfl (by decide)) (Nat.le_of_ble_eq_true rfl)
theorem x191_5 : Ev L xs ρ 191 5 [l0, l1, l2] (.int x :: st) σ r ↔ Ev L xs ρ 191 6 [l0, l1, some (.int x)] st σ r := ev_istore_n cm_191 dX11_unpaired_5 rfl (Nat.le_of_ble_eq_true rfl)
theorem x191_6 : Ev L xs ρ 191 6 [some (.ref a), l1, l2] st σ r ↔ Ev L xs ρ 191 7 [some (.ref a), l1, l2] (.ref a :: st) σ r := ev_aload_n cm_191 dX11_unpaired_6 rfl rfl
theorem x191_7 : Ev L xs ρ 191 7 [l0, l1, l2] (.ref a :: st) (n, I, Lm, Rm) r ↔ (a < n ∧ shp a = (0, 11)) ∧ Ev L xs ρ 191 10 [l0, l1, l2] (.int (I a 5) :: st) (n, I, Lm, Rm) r := ev_gtI cm_191 dX11_unpaired_7 rfl rfl
theorem x191_10 : Ev L xs ρ 191 10 [l0, l1, l2] (.int x :: st) σ r ↔ if x = 0 then Ev L xs ρ 191 13 [l0, l1, l2] st σ r else Ev L xs ρ 191 37 [l0, l1, l2] st σ r := ev_ifne cm_191 dX11_unpaired_10 (by decide)
theorem x191_13 : Ev L xs ρ 191 13 [l0, l1, some (.int x)] st σ r ↔ Ev L xs ρ 191 14 [l0, l1, some (.int x)] (.int x :: st) σ r := ev_iload_n cm_191 dX11_unpaired_13 rfl rfl
theorem x191_14 : Ev L xs ρ 191 14 [l0, some (.int x), l2] st σ r ↔ Ev L xs ρ 191 15 [l0, some (.int x), l2] (.int x :: st) σ r := ev_iload_n cm_191 dX11_unpaired_14 rfl rfl
theorem x191_15 : Ev L xs ρ 191 15 [l0, l1, l2] (.int y :: .int x :: st) σ r ↔ if x = y then Ev L xs ρ 191 28 [l0, l1, l2] st σ r else Ev L xs ρ 191 18 [l0, l1, l2] st σ r := ev_iceq cm_191 dX11_unpaired_15 (by decide)
theorem x191_18 : Ev L xs ρ 191 18 [some (.ref a), l1, l2] st σ r ↔ Ev L xs ρ 191 19 [some (.ref a), l1, l2] (.ref a :: st) σ r := ev_aload_n cm_191 dX11_unpaired_18 rfl rfl
theorem x191_19 : Ev L xs ρ 191 19 [l0, l1, l2] (.ref a :: st) (n, I, Lm, Rm) r ↔ (a < n ∧ shp a = (0, 11)) ∧ Ev L xs ρ 191 22 [l0, l1, l2] (rfv (Rm a 49) :: st) (n, I, Lm, Rm) r := ev_gtR cm_191 dX11_unpaired_19 rfl rfl
theorem x191_22 : Ev L xs ρ 191 22 [l0, l1, some (.int x)] st σ r ↔ Ev L xs ρ 191 23 [l0, l1, some (.int x)] (.int x :: st) σ r := ev_iload_n cm_191 dX11_unpaired_22 rfl rfl
theorem x191_23 : Ev L xs ρ 191 23 [l0, l1, l2] (.int x :: .ref a :: st) (n, I, Lm, Rm) r ↔ ((a < n ∧ (shp a).1 = 1) ∧ inb x (shp a).2) ∧ Ev L xs ρ 191 24 [l0, l1, l2] (.int (I a (ixn x)) :: st) (n, I, Lm, Rm) r := ev_iald cm_191 dX11_unpaired_23 (by decide)
theorem x191_24 : Ev L xs ρ 191 24 [l0, l1, l2] st σ r ↔ Ev L xs ρ 191 25 [l0, l1, l2] (.int (-1) :: st) σ r := ev_iconst cm_191 dX11_unpaired_24 (by decide)
theorem x191_25 : Ev L xs ρ 191 25 [l0, l1, l2] (.int y :: .int x :: st) σ r ↔ if x = y then Ev L xs ρ 191 37 [l0, l1, l2] st σ r else Ev L xs ρ 191 28 [l0, l1, l2] st σ r := ev_iceq cm_191 dX11_unpaired_25 (by decide)
theorem x191_28 : Ev L xs ρ 191 28 [some (.ref a), l1, l2] st σ r ↔ Ev L xs ρ 191 29 [some (.ref a), l1, l2] (.ref a :: st) σ r := ev_aload_n cm_191 dX11_unpaired_28 rfl rfl
theorem x191_29 : Ev L xs ρ 191 29 [l0, l1, l2] st σ r ↔ Ev L xs ρ 191 30 [l0, l1, l2] (.int (3) :: st) σ r := ev_iconst cm_191 dX11_unpaired_29 (by decide)
theorem x191_30 : Ev L xs ρ 191 30 [some (.ref a), l1, l2] st σ r ↔ Ev L xs ρ 191 31 [some (.ref a), l1, l2] (.ref a :: st) σ r := ev_aload_n cm_191 dX11_unpaired_30 rfl rfl
theorem x191_31 : Ev L xs ρ 191 31 [l0, l1, l2] (.ref a :: st) (n, I, Lm, Rm) r ↔ (a < n ∧ shp a = (0, 11)) ∧ Ev L xs ρ 191 34 [l0, l1, l2] (.int (I a 42) :: st) (n, I, Lm, Rm) r := ev_gtI cm_191 dX11_unpaired_31 rfl rfl
theorem x191_34 : Ev L xs 5 191 34 [l0, l1, l2] (.int y :: .int x :: .ref a :: []) (n, I, Lm, Rm) r ↔ (a < n ∧ shp a = (0, 11)) ∧ ∃ v n2 I2 L2 R2, Em L xs 170 [.ref a, .int x, .int y] (n, I, Lm, Rm) (v, n2, I2, L2, R2) ∧ Ev L xs 5 191 37 [l0, l1, l2] (v.toList ++ []) (n2, I2, L2, R2) r := ev_cV cm_191 [.int x, .int y] dX11_unpaired_34 rfl rfl rfl rfl (Nat.le_of_ble_eq_true rfl) (rka_lt rfl (by decide)) (Nat.le_of_ble_eq_true rfl)
theorem x191_37 : Ev L xs ρ 191 37 [l0, l1, some (.int x)] st σ r ↔ Ev L xs ρ 191 38 [l0, l1, some (.int x)] (.int x :: st) σ r := ev_iload_n cm_191 dX11_unpaired_37 rfl rfl
theorem x191_38 : Ev L xs ρ 191 38 [l0, l1, l2] [.int x] σ r ↔ r = (some (.int x), σ) := ev_reti cm_191 dX11_unpaired_38 rfl
theorem cm_192 : mcd 192 = cX11_pairTold := rfl
theorem em_192 : Em L xs 192 [.ref a] σ r ↔ Ev L xs 6 192 0 [some (.ref a), none, none] [] σ r := Iff.rfl
theorem x192_0 : Ev L xs ρ 192 0 [some (.ref a), l1, l2] st σ r ↔ Ev L xs ρ 192 1 [some (.ref a), l1, l2] (.ref a :: st) σ r := ev_aload_n cm_192 dX11_pairTold_0 rfl rfl
theorem x192_1 : Ev L xs ρ 192 1 [l0, l1, l2] st σ r ↔ Ev L xs ρ 192 2 [l0, l1, l2] (.int (-1) :: st) σ r := ev_iconst cm_192 dX11_pairTold_1 (by decide)
theorem x192_2 : Ev L xs 6 192 2 [l0, l1, l2] (.int x :: .ref a :: []) (n, I, Lm, Rm) r ↔ (a < n ∧ shp a = (0, 11)) ∧ ∃ v n2 I2 L2 R2, Em L xs 191 [.ref a, .int x] (n, I, Lm, Rm) (v, n2, I2, L2, R2) ∧ Ev L xs 6 192 5 [l0, l1, l2] (v.toList ++ []) (n2, I2, L2, R2) r := ev_cV cm_192 [.int x] dX11_pairTold_2 rfl rfl rfl rfl (Nat.le_of_ble_eq_true rfl) (rka_lt rfl (by decide)) (Nat.le_of_ble_eq_true rfl)
theorem x192_5 : Ev L xs ρ 192 5 [l0, l1, l2] (.int x :: st) σ r ↔ Ev L xs ρ 192 6 [l0, some (.int x), l2] st σ r := ev_istore_n cm_192 dX11_pairTold_5 rfl (Nat.le_of_ble_eq_true rfl)
theorem x192_6 : Ev L xs ρ 192 6 [some (.ref a), l1, l2] st σ r ↔ Ev L xs ρ 192 7 [some (.ref a), l1, l2] (.ref a :: st) σ r := ev_aload_n cm_192 dX11_pairTold_6 rfl rfl
theorem x192_7 : Ev L xs ρ 192 7 [l0, some (.int x), l2] st σ r ↔ Ev L xs ρ 192 8 [l0, some (.int x), l2] (.int x :: st) σ r := ev_iload_n cm_192 dX11_pairTold_7 rfl rfl
theorem x192_8 : Ev L xs 6 192 8 [l0, l1, l2] (.int x :: .ref a :: []) (n, I, Lm, Rm) r ↔ (a < n ∧ shp a = (0, 11)) ∧ ∃ v n2 I2 L2 R2, Em L xs 191 [.ref a, .int x] (n, I, Lm, Rm) (v, n2, I2, L2, R2) ∧ Ev L xs 6 192 11 [l0, l1, l2] (v.toList ++ []) (n2, I2, L2, R2) r := ev_cV cm_192 [.int x] dX11_pairTold_8 rfl rfl rfl rfl (Nat.le_of_ble_eq_true rfl) (rka_lt rfl (by decide)) (Nat.le_of_ble_eq_true rfl)
theorem x192_11 : Ev L xs ρ 192 11 [l0, l1, l2] (.int x :: st) σ r ↔ Ev L xs ρ 192 12 [l0, l1, some (.int x)] st σ r := ev_istore_n cm_192 dX11_pairTold_11 rfl (Nat.le_of_ble_eq_true rfl)
theorem x192_12 : Ev L xs ρ 192 12 [some (.ref a), l1, l2] st σ r ↔ Ev L xs ρ 192 13 [some (.ref a), l1, l2] (.ref a :: st) σ r := ev_aload_n cm_192 dX11_pairTold_12 rfl rfl
theorem x192_13 : Ev L xs ρ 192 13 [l0, l1, l2] (.ref a :: st) (n, I, Lm, Rm) r ↔ (a < n ∧ shp a = (0, 11)) ∧ Ev L xs ρ 192 16 [l0, l1, l2] (.int (I a 5) :: st) (n, I, Lm, Rm) r := ev_gtI cm_192 dX11_pairTold_13 rfl rfl
theorem x192_16 : Ev L xs ρ 192 16 [l0, l1, l2] (.int x :: st) σ r ↔ if x = 0 then Ev L xs ρ 192 20 [l0, l1, l2] st σ r else Ev L xs ρ 192 19 [l0, l1, l2] st σ r := ev_ifeq cm_192 dX11_pairTold_16 (by decide)
theorem x192_19 : Ev L xs ρ 192 19 [l0, l1, l2] [] σ r ↔ r = (none, σ) := ev_retv cm_192 dX11_pairTold_19 rfl
theorem x192_20 : Ev L xs ρ 192 20 [some (.ref a), l1, l2] st σ r ↔ Ev L xs ρ 192 21 [some (.ref a), l1, l2] (.ref a :: st) σ r := ev_aload_n cm_192 dX11_pairTold_20 rfl rfl
theorem x192_21 : Ev L xs ρ 192 21 [l0, l1, l2] (.ref a :: st) (n, I, Lm, Rm) r ↔ (a < n ∧ shp a = (0, 11)) ∧ Ev L xs ρ 192 24 [l0, l1, l2] (rfv (Rm a 49) :: st) (n, I, Lm, Rm) r := ev_gtR cm_192 dX11_pairTold_21 rfl rfl
theorem x192_24 : Ev L xs ρ 192 24 [l0, some (.int x), l2] st σ r ↔ Ev L xs ρ 192 25 [l0, some (.int x), l2] (.int x :: st) σ r := ev_iload_n cm_192 dX11_pairTold_24 rfl rfl
theorem x192_25 : Ev L xs ρ 192 25 [l0, l1, some (.int x)] st σ r ↔ Ev L xs ρ 192 26 [l0, l1, some (.int x)] (.int x :: st) σ r := ev_iload_n cm_192 dX11_pairTold_25 rfl rfl
theorem x192_26 : Ev L xs ρ 192 26 [l0, l1, l2] (.int y :: .int x :: .ref a :: st) (n, I, Lm, Rm) r ↔ ((a < n ∧ (shp a).1 = 1) ∧ inb x (shp a).2) ∧ Ev L xs ρ 192 27 [l0, l1, l2] st (n, up2 I a (ixn x) y, Lm, Rm) r := ev_iast cm_192 dX11_pairTold_26
theorem x192_27 : Ev L xs ρ 192 27 [some (.ref a), l1, l2] st σ r ↔ Ev L xs ρ 192 28 [some (.ref a), l1, l2] (.ref a :: st) σ r := ev_aload_n cm_192 dX11_pairTold_27 rfl rfl
theorem x192_28 : Ev L xs ρ 192 28 [l0, l1, l2] (.ref a :: st) (n, I, Lm, Rm) r ↔ (a < n ∧ shp a = (0, 11)) ∧ Ev L xs ρ 192 31 [l0, l1, l2] (rfv (Rm a 49) :: st) (n, I, Lm, Rm) r := ev_gtR cm_192 dX11_pairTold_28 rfl rfl
theorem x192_31 : Ev L xs ρ 192 31 [l0, l1, some (.int x)] st σ r ↔ Ev L xs ρ 192 32 [l0, l1, some (.int x)] (.int x :: st) σ r := ev_iload_n cm_192 dX11_pairTold_31 rfl rfl
theorem x192_32 : Ev L xs ρ 192 32 [l0, some (.int x), l2] st σ r ↔ Ev L xs ρ 192 33 [l0, some (.int x), l2] (.int x :: st) σ r := ev_iload_n cm_192 dX11_pairTold_32 rfl rfl
theorem x192_33 : Ev L xs ρ 192 33 [l0, l1, l2] (.int y :: .int x :: .ref a :: st) (n, I, Lm, Rm) r ↔ ((a < n ∧ (shp a).1 = 1) ∧ inb x (shp a).2) ∧ Ev L xs ρ 192 34 [l0, l1, l2] st (n, up2 I a (ixn x) y, Lm, Rm) r := ev_iast cm_192 dX11_pairTold_33
theorem x192_34 : Ev L xs ρ 192 34 [some (.ref a), l1, l2] st σ r ↔ Ev L xs ρ 192 35 [some (.ref a), l1, l2] (.ref a :: st) σ r := ev_aload_n cm_192 dX11_pairTold_34 rfl rfl
theorem x192_35 : Ev L xs ρ 192 35 [l0, l1, l2] (.ref a :: st) (n, I, Lm, Rm) r ↔ (a < n ∧ shp a = (0, 11)) ∧ Ev L xs ρ 192 38 [l0, l1, l2] (rfv (Rm a 51) :: st) (n, I, Lm, Rm) r := ev_gtR cm_192 dX11_pairTold_35 rfl rfl
theorem x192_38 : Ev L xs ρ 192 38 [some (.ref a), l1, l2] st σ r ↔ Ev L xs ρ 192 39 [some (.ref a), l1, l2] (.ref a :: st) σ r := ev_aload_n cm_192 dX11_pairTold_38 rfl rfl
theorem x192_39 : Ev L xs ρ 192 39 [l0, l1, l2] (.ref a :: st) (n, I, Lm, Rm) r ↔ (a < n ∧ shp a = (0, 11)) ∧ Ev L xs ρ 192 42 [l0, l1, l2] (.int (I a 50) :: st) (n, I, Lm, Rm) r := ev_gtI cm_192 dX11_pairTold_39 rfl rfl
theorem x192_42 : Ev L xs ρ 192 42 [l0, some (.int x), l2] st σ r ↔ Ev L xs ρ 192 43 [l0, some (.int x), l2] (.int x :: st) σ r := ev_iload_n cm_192 dX11_pairTold_42 rfl rfl
theorem x192_43 : Ev L xs ρ 192 43 [l0, l1, l2] (.int y :: .int x :: .ref a :: st) (n, I, Lm, Rm) r ↔ ((a < n ∧ (shp a).1 = 1) ∧ inb x (shp a).2) ∧ Ev L xs ρ 192 44 [l0, l1, l2] st (n, up2 I a (ixn x) y, Lm, Rm) r := ev_iast cm_192 dX11_pairTold_43
theorem x192_44 : Ev L xs ρ 192 44 [some (.ref a), l1, l2] st σ r ↔ Ev L xs ρ 192 45 [some (.ref a), l1, l2] (.ref a :: st) σ r := ev_aload_n cm_192 dX11_pairTold_44 rfl rfl
theorem x192_45 : Ev L xs ρ 192 45 [l0, l1, l2] (.ref a :: st) σ r ↔ Ev L xs ρ 192 46 [l0, l1, l2] (.ref a :: .ref a :: st) σ r := ev_nx (ev_ex cm_192 dX11_pairTold_45 rfl rfl)
theorem x192_46 : Ev L xs ρ 192 46 [l0, l1, l2] (.ref a :: st) (n, I, Lm, Rm) r ↔ (a < n ∧ shp a = (0, 11)) ∧ Ev L xs ρ 192 49 [l0, l1, l2] (.int (I a 50) :: st) (n, I, Lm, Rm) r := ev_gtI cm_192 dX11_pairTold_46 rfl rfl
theorem x192_49 : Ev L xs ρ 192 49 [l0, l1, l2] st σ r ↔ Ev L xs ρ 192 50 [l0, l1, l2] (.int (1) :: st) σ r := ev_iconst cm_192 dX11_pairTold_49 (by decide)
theorem x192_50 : Ev L xs ρ 192 50 [l0, l1, l2] (.int y :: .int x :: st) σ r ↔ Ev L xs ρ 192 51 [l0, l1, l2] (.int (x + y) :: st) σ r := ev_nx (ev_ex cm_192 dX11_pairTold_50 rfl rfl)
theorem x192_51 : Ev L xs ρ 192 51 [l0, l1, l2] (.int x :: .ref a :: st) (n, I, Lm, Rm) r ↔ (a < n ∧ shp a = (0, 11)) ∧ Ev L xs ρ 192 54 [l0, l1, l2] st (n, up2 I a 50 x, Lm, Rm) r := ev_ptI cm_192 dX11_pairTold_51 rfl rfl (Or.inl rfl)
theorem x192_54 : Ev L xs ρ 192 54 [l0, l1, l2] [] σ r ↔ r = (none, σ) := ev_retv cm_192 dX11_pairTold_54 rfl
theorem cm_193 : mcd 193 = cX11_townTold := rfl
theorem em_193 : Em L xs 193 [.ref a] σ r ↔ Ev L xs 9 193 0 [some (.ref a), none] [] σ r := Iff.rfl
theorem x193_0 : Ev L xs ρ 193 0 [some (.ref a), l1] st σ r ↔ Ev L xs ρ 193 1 [some (.ref a), l1] (.ref a :: st) σ r := ev_aload_n cm_193 dX11_townTold_0 rfl rfl
theorem x193_1 : Ev L xs ρ 193 1 [l0, l1] (.ref a :: st) (n, I, Lm, Rm) r ↔ (a < n ∧ shp a = (0, 11)) ∧ Ev L xs ρ 193 4 [l0, l1] (.int (I a 2) :: st) (n, I, Lm, Rm) r := ev_gtI cm_193 dX11_townTold_1 rfl rfl
theorem x193_4 : Ev L xs ρ 193 4 [l0, l1] (.int x :: st) σ r ↔ Ev L xs ρ 193 5 [l0, some (.int x)] st σ r := ev_istore_n cm_193 dX11_townTold_4 rfl (Nat.le_of_ble_eq_true rfl)
theorem x193_5 : Ev L xs ρ 193 5 [some (.ref a), l1] st σ r ↔ Ev L xs ρ 193 6 [some (.ref a), l1] (.ref a :: st) σ r := ev_aload_n cm_193 dX11_townTold_5 rfl rfl
theorem x193_6 : Ev L xs ρ 193 6 [l0, l1] (.ref a :: st) (n, I, Lm, Rm) r ↔ (a < n ∧ shp a = (0, 11)) ∧ Ev L xs ρ 193 9 [l0, l1] (.int (I a 53) :: st) (n, I, Lm, Rm) r := ev_gtI cm_193 dX11_townTold_6 rfl rfl
theorem x193_9 : Ev L xs ρ 193 9 [l0, l1] st σ r ↔ Ev L xs ρ 193 11 [l0, l1] (.int (100) :: st) σ r := ev_bipush cm_193 dX11_townTold_9 (by decide)
theorem x193_11 : Ev L xs ρ 193 11 [l0, l1] (.int y :: .int x :: st) σ r ↔ if x = y then Ev L xs ρ 193 14 [l0, l1] st σ r else Ev L xs ρ 193 21 [l0, l1] st σ r := ev_icne cm_193 dX11_townTold_11 (by decide)
theorem x193_14 : Ev L xs ρ 193 14 [some (.ref a), l1] st σ r ↔ Ev L xs ρ 193 15 [some (.ref a), l1] (.ref a :: st) σ r := ev_aload_n cm_193 dX11_townTold_14 rfl rfl
theorem x193_15 : Ev L xs ρ 193 15 [l0, l1] st σ r ↔ Ev L xs ρ 193 16 [l0, l1] (.int (5) :: st) σ r := ev_iconst cm_193 dX11_townTold_15 (by decide)
theorem x193_16 : Ev L xs ρ 193 16 [l0, some (.int x)] st σ r ↔ Ev L xs ρ 193 17 [l0, some (.int x)] (.int x :: st) σ r := ev_iload_n cm_193 dX11_townTold_16 rfl rfl
theorem x193_17 : Ev L xs 9 193 17 [l0, l1] (.int y :: .int x :: .ref a :: []) (n, I, Lm, Rm) r ↔ (a < n ∧ shp a = (0, 11)) ∧ ∃ v n2 I2 L2 R2, Em L xs 170 [.ref a, .int x, .int y] (n, I, Lm, Rm) (v, n2, I2, L2, R2) ∧ Ev L xs 9 193 20 [l0, l1] (v.toList ++ []) (n2, I2, L2, R2) r := ev_cV cm_193 [.int x, .int y] dX11_townTold_17 rfl rfl rfl rfl (Nat.le_of_ble_eq_true rfl) (rka_lt rfl (by decide)) (Nat.le_of_ble_eq_true rfl)
theorem x193_20 : Ev L xs ρ 193 20 [l0, l1] [] σ r ↔ r = (none, σ) := ev_retv cm_193 dX11_townTold_20 rfl
theorem x193_21 : Ev L xs ρ 193 21 [some (.ref a), l1] st σ r ↔ Ev L xs ρ 193 22 [some (.ref a), l1] (.ref a :: st) σ r := ev_aload_n cm_193 dX11_townTold_21 rfl rfl
theorem x193_22 : Ev L xs ρ 193 22 [some (.ref a), l1] st σ r ↔ Ev L xs ρ 193 23 [some (.ref a), l1] (.ref a :: st) σ r := ev_aload_n cm_193 dX11_townTold_22 rfl rfl
theorem x193_23 : Ev L xs ρ 193 23 [l0, l1] (.ref a :: st) (n, I, Lm, Rm) r ↔ (a < n ∧ shp a = (0, 11)) ∧ Ev L xs ρ 193 26 [l0, l1] (rfv (Rm a 9) :: st) (n, I, Lm, Rm) r := ev_gtR cm_193 dX11_townTold_23 rfl rfl
theorem x193_26 : Ev L xs 9 193 26 [l0, l1] (.ref b :: .ref a :: []) (n, I, Lm, Rm) r ↔ (a < n ∧ shp a = (0, 11)) ∧ ∃ v n2 I2 L2 R2, Em L xs 175 [.ref a, .ref b] (n, I, Lm, Rm) (v, n2, I2, L2, R2) ∧ Ev L xs 9 193 29 [l0, l1] (v.toList ++ []) (n2, I2, L2, R2) r := ev_cV cm_193 [.ref b] dX11_townTold_26 rfl rfl rfl rfl (Nat.le_of_ble_eq_true rfl) (rka_lt rfl (by decide)) (Nat.le_of_ble_eq_true rfl)
theorem x193_29 : Ev L xs ρ 193 29 [l0, l1] (.int x :: st) σ r ↔ if x = 0 then Ev L xs ρ 193 46 [l0, l1] st σ r else Ev L xs ρ 193 32 [l0, l1] st σ r := ev_ifeq cm_193 dX11_townTold_29 (by decide)
theorem x193_32 : Ev L xs ρ 193 32 [some (.ref a), l1] st σ r ↔ Ev L xs ρ 193 33 [some (.ref a), l1] (.ref a :: st) σ r := ev_aload_n cm_193 dX11_townTold_32 rfl rfl
theorem x193_33 : Ev L xs ρ 193 33 [some (.ref a), l1] st σ r ↔ Ev L xs ρ 193 34 [some (.ref a), l1] (.ref a :: st) σ r := ev_aload_n cm_193 dX11_townTold_33 rfl rfl
theorem x193_34 : Ev L xs ρ 193 34 [l0, l1] st σ r ↔ Ev L xs ρ 193 35 [l0, l1] (.int (0) :: st) σ r := ev_iconst cm_193 dX11_townTold_34 (by decide)
theorem x193_35 : Ev L xs ρ 193 35 [l0, l1] st σ r ↔ Ev L xs ρ 193 37 [l0, l1] (.int (60) :: st) σ r := ev_bipush cm_193 dX11_townTold_35 (by decide)
theorem x193_37 : Ev L xs 9 193 37 [l0, l1] (.int y :: .int x :: .ref b :: .ref a :: []) (n, I, Lm, Rm) r ↔ (b < n ∧ shp b = (0, 11)) ∧ ∃ v n2 I2 L2 R2, Em L xs 179 [.ref b, .int x, .int y] (n, I, Lm, Rm) (v, n2, I2, L2, R2) ∧ Ev L xs 9 193 40 [l0, l1] (v.toList ++ (.ref a :: [])) (n2, I2, L2, R2) r := ev_cV cm_193 [.int x, .int y] dX11_townTold_37 rfl rfl rfl rfl (Nat.le_of_ble_eq_true rfl) (rka_lt rfl (by decide)) (Nat.le_of_ble_eq_true rfl)
theorem x193_40 : Ev L xs ρ 193 40 [l0, l1] (.int x :: .ref a :: st) (n, I, Lm, Rm) r ↔ (a < n ∧ shp a = (0, 11)) ∧ Ev L xs ρ 193 43 [l0, l1] st (n, up2 I a 54 x, Lm, Rm) r := ev_ptI cm_193 dX11_townTold_40 rfl rfl (Or.inl rfl)
theorem x193_43 : Ev L xs ρ 193 43 [l0, l1] st σ r ↔ Ev L xs ρ 193 159 [l0, l1] st σ r := ev_goto cm_193 dX11_townTold_43 (by decide)
theorem x193_46 : Ev L xs ρ 193 46 [some (.ref a), l1] st σ r ↔ Ev L xs ρ 193 47 [some (.ref a), l1] (.ref a :: st) σ r := ev_aload_n cm_193 dX11_townTold_46 rfl rfl
theorem x193_47 : Ev L xs ρ 193 47 [some (.ref a), l1] st σ r ↔ Ev L xs ρ 193 48 [some (.ref a), l1] (.ref a :: st) σ r := ev_aload_n cm_193 dX11_townTold_47 rfl rfl
theorem x193_48 : Ev L xs ρ 193 48 [l0, l1] (.ref a :: st) (n, I, Lm, Rm) r ↔ (a < n ∧ shp a = (0, 11)) ∧ Ev L xs ρ 193 51 [l0, l1] (rfv (Rm a 10) :: st) (n, I, Lm, Rm) r := ev_gtR cm_193 dX11_townTold_48 rfl rfl
theorem x193_51 : Ev L xs 9 193 51 [l0, l1] (.ref b :: .ref a :: []) (n, I, Lm, Rm) r ↔ (a < n ∧ shp a = (0, 11)) ∧ ∃ v n2 I2 L2 R2, Em L xs 175 [.ref a, .ref b] (n, I, Lm, Rm) (v, n2, I2, L2, R2) ∧ Ev L xs 9 193 54 [l0, l1] (v.toList ++ []) (n2, I2, L2, R2) r := ev_cV cm_193 [.ref b] dX11_townTold_51 rfl rfl rfl rfl (Nat.le_of_ble_eq_true rfl) (rka_lt rfl (by decide)) (Nat.le_of_ble_eq_true rfl)
theorem x193_54 : Ev L xs ρ 193 54 [l0, l1] (.int x :: st) σ r ↔ if x = 0 then Ev L xs ρ 193 65 [l0, l1] st σ r else Ev L xs ρ 193 57 [l0, l1] st σ r := ev_ifeq cm_193 dX11_townTold_54 (by decide)
theorem x193_57 : Ev L xs ρ 193 57 [some (.ref a), l1] st σ r ↔ Ev L xs ρ 193 58 [some (.ref a), l1] (.ref a :: st) σ r := ev_aload_n cm_193 dX11_townTold_57 rfl rfl
theorem x193_58 : Ev L xs ρ 193 58 [l0, some (.int x)] st σ r ↔ Ev L xs ρ 193 59 [l0, some (.int x)] (.int x :: st) σ r := ev_iload_n cm_193 dX11_townTold_58 rfl rfl
theorem x193_59 : Ev L xs 9 193 59 [l0, l1] (.int x :: .ref a :: []) (n, I, Lm, Rm) r ↔ (a < n ∧ shp a = (0, 11)) ∧ ∃ v n2 I2 L2 R2, Em L xs 187 [.ref a, .int x] (n, I, Lm, Rm) (v, n2, I2, L2, R2) ∧ Ev L xs 9 193 62 [l0, l1] (v.toList ++ []) (n2, I2, L2, R2) r := ev_cV cm_193 [.int x] dX11_townTold_59 rfl rfl rfl rfl (Nat.le_of_ble_eq_true rfl) (rka_lt rfl (by decide)) (Nat.le_of_ble_eq_true rfl)
theorem x193_62 : Ev L xs ρ 193 62 [l0, l1] st σ r ↔ Ev L xs ρ 193 159 [l0, l1] st σ r := ev_goto cm_193 dX11_townTold_62 (by decide)
theorem x193_65 : Ev L xs ρ 193 65 [some (.ref a), l1] st σ r ↔ Ev L xs ρ 193 66 [some (.ref a), l1] (.ref a :: st) σ r := ev_aload_n cm_193 dX11_townTold_65 rfl rfl
theorem x193_66 : Ev L xs ρ 193 66 [some (.ref a), l1] st σ r ↔ Ev L xs ρ 193 67 [some (.ref a), l1] (.ref a :: st) σ r := ev_aload_n cm_193 dX11_townTold_66 rfl rfl
theorem x193_67 : Ev L xs ρ 193 67 [l0, l1] (.ref a :: st) (n, I, Lm, Rm) r ↔ (a < n ∧ shp a = (0, 11)) ∧ Ev L xs ρ 193 70 [l0, l1] (rfv (Rm a 16) :: st) (n, I, Lm, Rm) r := ev_gtR cm_193 dX11_townTold_67 rfl rfl
theorem x193_70 : Ev L xs 9 193 70 [l0, l1] (.ref b :: .ref a :: []) (n, I, Lm, Rm) r ↔ (a < n ∧ shp a = (0, 11)) ∧ ∃ v n2 I2 L2 R2, Em L xs 175 [.ref a, .ref b] (n, I, Lm, Rm) (v, n2, I2, L2, R2) ∧ Ev L xs 9 193 73 [l0, l1] (v.toList ++ []) (n2, I2, L2, R2) r := ev_cV cm_193 [.ref b] dX11_townTold_70 rfl rfl rfl rfl (Nat.le_of_ble_eq_true rfl) (rka_lt rfl (by decide)) (Nat.le_of_ble_eq_true rfl)
theorem x193_73 : Ev L xs ρ 193 73 [l0, l1] (.int x :: st) σ r ↔ if x = 0 then Ev L xs ρ 193 84 [l0, l1] st σ r else Ev L xs ρ 193 76 [l0, l1] st σ r := ev_ifeq cm_193 dX11_townTold_73 (by decide)
theorem x193_76 : Ev L xs ρ 193 76 [some (.ref a), l1] st σ r ↔ Ev L xs ρ 193 77 [some (.ref a), l1] (.ref a :: st) σ r := ev_aload_n cm_193 dX11_townTold_76 rfl rfl
theorem x193_77 : Ev L xs ρ 193 77 [l0, some (.int x)] st σ r ↔ Ev L xs ρ 193 78 [l0, some (.int x)] (.int x :: st) σ r := ev_iload_n cm_193 dX11_townTold_77 rfl rfl
theorem x193_78 : Ev L xs 9 193 78 [l0, l1] (.int x :: .ref a :: []) (n, I, Lm, Rm) r ↔ (a < n ∧ shp a = (0, 11)) ∧ ∃ v n2 I2 L2 R2, Em L xs 188 [.ref a, .int x] (n, I, Lm, Rm) (v, n2, I2, L2, R2) ∧ Ev L xs 9 193 81 [l0, l1] (v.toList ++ []) (n2, I2, L2, R2) r := ev_cV cm_193 [.int x] dX11_townTold_78 rfl rfl rfl rfl (Nat.le_of_ble_eq_true rfl) (rka_lt rfl (by decide)) (Nat.le_of_ble_eq_true rfl)
theorem x193_81 : Ev L xs ρ 193 81 [l0, l1] st σ r ↔ Ev L xs ρ 193 159 [l0, l1] st σ r := ev_goto cm_193 dX11_townTold_81 (by decide)
theorem x193_84 : Ev L xs ρ 193 84 [some (.ref a), l1] st σ r ↔ Ev L xs ρ 193 85 [some (.ref a), l1] (.ref a :: st) σ r := ev_aload_n cm_193 dX11_townTold_84 rfl rfl
theorem x193_85 : Ev L xs ρ 193 85 [some (.ref a), l1] st σ r ↔ Ev L xs ρ 193 86 [some (.ref a), l1] (.ref a :: st) σ r := ev_aload_n cm_193 dX11_townTold_85 rfl rfl
theorem x193_86 : Ev L xs ρ 193 86 [l0, l1] (.ref a :: st) (n, I, Lm, Rm) r ↔ (a < n ∧ shp a = (0, 11)) ∧ Ev L xs ρ 193 89 [l0, l1] (rfv (Rm a 24) :: st) (n, I, Lm, Rm) r := ev_gtR cm_193 dX11_townTold_86 rfl rfl
theorem x193_89 : Ev L xs 9 193 89 [l0, l1] (.ref b :: .ref a :: []) (n, I, Lm, Rm) r ↔ (a < n ∧ shp a = (0, 11)) ∧ ∃ v n2 I2 L2 R2, Em L xs 175 [.ref a, .ref b] (n, I, Lm, Rm) (v, n2, I2, L2, R2) ∧ Ev L xs 9 193 92 [l0, l1] (v.toList ++ []) (n2, I2, L2, R2) r := ev_cV cm_193 [.ref b] dX11_townTold_89 rfl rfl rfl rfl (Nat.le_of_ble_eq_true rfl) (rka_lt rfl (by decide)) (Nat.le_of_ble_eq_true rfl)
theorem x193_92 : Ev L xs ρ 193 92 [l0, l1] (.int x :: st) σ r ↔ if x = 0 then Ev L xs ρ 193 103 [l0, l1] st σ r else Ev L xs ρ 193 95 [l0, l1] st σ r := ev_ifeq cm_193 dX11_townTold_92 (by decide)
theorem x193_95 : Ev L xs ρ 193 95 [some (.ref a), l1] st σ r ↔ Ev L xs ρ 193 96 [some (.ref a), l1] (.ref a :: st) σ r := ev_aload_n cm_193 dX11_townTold_95 rfl rfl
theorem x193_96 : Ev L xs ρ 193 96 [l0, some (.int x)] st σ r ↔ Ev L xs ρ 193 97 [l0, some (.int x)] (.int x :: st) σ r := ev_iload_n cm_193 dX11_townTold_96 rfl rfl
theorem x193_97 : Ev L xs 9 193 97 [l0, l1] (.int x :: .ref a :: []) (n, I, Lm, Rm) r ↔ (a < n ∧ shp a = (0, 11)) ∧ ∃ v n2 I2 L2 R2, Em L xs 189 [.ref a, .int x] (n, I, Lm, Rm) (v, n2, I2, L2, R2) ∧ Ev L xs 9 193 100 [l0, l1] (v.toList ++ []) (n2, I2, L2, R2) r := ev_cV cm_193 [.int x] dX11_townTold_97 rfl rfl rfl rfl (Nat.le_of_ble_eq_true rfl) (rka_lt rfl (by decide)) (Nat.le_of_ble_eq_true rfl)
theorem x193_100 : Ev L xs ρ 193 100 [l0, l1] st σ r ↔ Ev L xs ρ 193 159 [l0, l1] st σ r := ev_goto cm_193 dX11_townTold_100 (by decide)
theorem x193_103 : Ev L xs ρ 193 103 [some (.ref a), l1] st σ r ↔ Ev L xs ρ 193 104 [some (.ref a), l1] (.ref a :: st) σ r := ev_aload_n cm_193 dX11_townTold_103 rfl rfl
theorem x193_104 : Ev L xs ρ 193 104 [some (.ref a), l1] st σ r ↔ Ev L xs ρ 193 105 [some (.ref a), l1] (.ref a :: st) σ r := ev_aload_n cm_193 dX11_townTold_104 rfl rfl
theorem x193_105 : Ev L xs ρ 193 105 [l0, l1] (.ref a :: st) (n, I, Lm, Rm) r ↔ (a < n ∧ shp a = (0, 11)) ∧ Ev L xs ρ 193 108 [l0, l1] (rfv (Rm a 25) :: st) (n, I, Lm, Rm) r := ev_gtR cm_193 dX11_townTold_105 rfl rfl
theorem x193_108 : Ev L xs 9 193 108 [l0, l1] (.ref b :: .ref a :: []) (n, I, Lm, Rm) r ↔ (a < n ∧ shp a = (0, 11)) ∧ ∃ v n2 I2 L2 R2, Em L xs 175 [.ref a, .ref b] (n, I, Lm, Rm) (v, n2, I2, L2, R2) ∧ Ev L xs 9 193 111 [l0, l1] (v.toList ++ []) (n2, I2, L2, R2) r := ev_cV cm_193 [.ref b] dX11_townTold_108 rfl rfl rfl rfl (Nat.le_of_ble_eq_true rfl) (rka_lt rfl (by decide)) (Nat.le_of_ble_eq_true rfl)
theorem x193_111 : Ev L xs ρ 193 111 [l0, l1] (.int x :: st) σ r ↔ if x = 0 then Ev L xs ρ 193 121 [l0, l1] st σ r else Ev L xs ρ 193 114 [l0, l1] st σ r := ev_ifeq cm_193 dX11_townTold_111 (by decide)
theorem x193_114 : Ev L xs ρ 193 114 [some (.ref a), l1] st σ r ↔ Ev L xs ρ 193 115 [some (.ref a), l1] (.ref a :: st) σ r := ev_aload_n cm_193 dX11_townTold_114 rfl rfl
theorem x193_115 : Ev L xs 9 193 115 [l0, l1] (.ref a :: []) (n, I, Lm, Rm) r ↔ (a < n ∧ shp a = (0, 11)) ∧ ∃ v n2 I2 L2 R2, Em L xs 190 [.ref a] (n, I, Lm, Rm) (v, n2, I2, L2, R2) ∧ Ev L xs 9 193 118 [l0, l1] (v.toList ++ []) (n2, I2, L2, R2) r := ev_cV cm_193 [] dX11_townTold_115 rfl rfl rfl rfl (Nat.le_of_ble_eq_true rfl) (rka_lt rfl (by decide)) (Nat.le_of_ble_eq_true rfl)
theorem x193_118 : Ev L xs ρ 193 118 [l0, l1] st σ r ↔ Ev L xs ρ 193 159 [l0, l1] st σ r := ev_goto cm_193 dX11_townTold_118 (by decide)
theorem x193_121 : Ev L xs ρ 193 121 [some (.ref a), l1] st σ r ↔ Ev L xs ρ 193 122 [some (.ref a), l1] (.ref a :: st) σ r := ev_aload_n cm_193 dX11_townTold_121 rfl rfl
theorem x193_122 : Ev L xs ρ 193 122 [some (.ref a), l1] st σ r ↔ Ev L xs ρ 193 123 [some (.ref a), l1] (.ref a :: st) σ r := ev_aload_n cm_193 dX11_townTold_122 rfl rfl
theorem x193_123 : Ev L xs ρ 193 123 [l0, l1] (.ref a :: st) (n, I, Lm, Rm) r ↔ (a < n ∧ shp a = (0, 11)) ∧ Ev L xs ρ 193 126 [l0, l1] (rfv (Rm a 26) :: st) (n, I, Lm, Rm) r := ev_gtR cm_193 dX11_townTold_123 rfl rfl
theorem x193_126 : Ev L xs 9 193 126 [l0, l1] (.ref b :: .ref a :: []) (n, I, Lm, Rm) r ↔ (a < n ∧ shp a = (0, 11)) ∧ ∃ v n2 I2 L2 R2, Em L xs 175 [.ref a, .ref b] (n, I, Lm, Rm) (v, n2, I2, L2, R2) ∧ Ev L xs 9 193 129 [l0, l1] (v.toList ++ []) (n2, I2, L2, R2) r := ev_cV cm_193 [.ref b] dX11_townTold_126 rfl rfl rfl rfl (Nat.le_of_ble_eq_true rfl) (rka_lt rfl (by decide)) (Nat.le_of_ble_eq_true rfl)
theorem x193_129 : Ev L xs ρ 193 129 [l0, l1] (.int x :: st) σ r ↔ if x = 0 then Ev L xs ρ 193 139 [l0, l1] st σ r else Ev L xs ρ 193 132 [l0, l1] st σ r := ev_ifeq cm_193 dX11_townTold_129 (by decide)
theorem x193_132 : Ev L xs ρ 193 132 [some (.ref a), l1] st σ r ↔ Ev L xs ρ 193 133 [some (.ref a), l1] (.ref a :: st) σ r := ev_aload_n cm_193 dX11_townTold_132 rfl rfl
theorem x193_133 : Ev L xs 9 193 133 [l0, l1] (.ref a :: []) (n, I, Lm, Rm) r ↔ (a < n ∧ shp a = (0, 11)) ∧ ∃ v n2 I2 L2 R2, Em L xs 192 [.ref a] (n, I, Lm, Rm) (v, n2, I2, L2, R2) ∧ Ev L xs 9 193 136 [l0, l1] (v.toList ++ []) (n2, I2, L2, R2) r := ev_cV cm_193 [] dX11_townTold_133 rfl rfl rfl rfl (Nat.le_of_ble_eq_true rfl) (rka_lt rfl (by decide)) (Nat.le_of_ble_eq_true rfl)
theorem x193_136 : Ev L xs ρ 193 136 [l0, l1] st σ r ↔ Ev L xs ρ 193 159 [l0, l1] st σ r := ev_goto cm_193 dX11_townTold_136 (by decide)
theorem x193_139 : Ev L xs ρ 193 139 [some (.ref a), l1] st σ r ↔ Ev L xs ρ 193 140 [some (.ref a), l1] (.ref a :: st) σ r := ev_aload_n cm_193 dX11_townTold_139 rfl rfl
theorem x193_140 : Ev L xs ρ 193 140 [some (.ref a), l1] st σ r ↔ Ev L xs ρ 193 141 [some (.ref a), l1] (.ref a :: st) σ r := ev_aload_n cm_193 dX11_townTold_140 rfl rfl
theorem x193_141 : Ev L xs ρ 193 141 [l0, l1] (.ref a :: st) (n, I, Lm, Rm) r ↔ (a < n ∧ shp a = (0, 11)) ∧ Ev L xs ρ 193 144 [l0, l1] (rfv (Rm a 27) :: st) (n, I, Lm, Rm) r := ev_gtR cm_193 dX11_townTold_141 rfl rfl
theorem x193_144 : Ev L xs 9 193 144 [l0, l1] (.ref b :: .ref a :: []) (n, I, Lm, Rm) r ↔ (a < n ∧ shp a = (0, 11)) ∧ ∃ v n2 I2 L2 R2, Em L xs 176 [.ref a, .ref b] (n, I, Lm, Rm) (v, n2, I2, L2, R2) ∧ Ev L xs 9 193 147 [l0, l1] (v.toList ++ []) (n2, I2, L2, R2) r := ev_cV cm_193 [.ref b] dX11_townTold_144 rfl rfl rfl rfl (Nat.le_of_ble_eq_true rfl) (rka_lt rfl (by decide)) (Nat.le_of_ble_eq_true rfl)
theorem x193_147 : Ev L xs ρ 193 147 [some (.ref a), l1] st σ r ↔ Ev L xs ρ 193 148 [some (.ref a), l1] (.ref a :: st) σ r := ev_aload_n cm_193 dX11_townTold_147 rfl rfl
theorem x193_148 : Ev L xs ρ 193 148 [l0, l1] (.ref a :: st) (n, I, Lm, Rm) r ↔ (a < n ∧ shp a = (0, 11)) ∧ Ev L xs ρ 193 151 [l0, l1] (.int (I a 5) :: st) (n, I, Lm, Rm) r := ev_gtI cm_193 dX11_townTold_148 rfl rfl
theorem x193_151 : Ev L xs ρ 193 151 [l0, l1] (.int x :: st) σ r ↔ if x = 0 then Ev L xs ρ 193 154 [l0, l1] st σ r else Ev L xs ρ 193 159 [l0, l1] st σ r := ev_ifne cm_193 dX11_townTold_151 (by decide)
theorem x193_154 : Ev L xs ρ 193 154 [some (.ref a), l1] st σ r ↔ Ev L xs ρ 193 155 [some (.ref a), l1] (.ref a :: st) σ r := ev_aload_n cm_193 dX11_townTold_154 rfl rfl
theorem x193_155 : Ev L xs ρ 193 155 [l0, some (.int x)] st σ r ↔ Ev L xs ρ 193 156 [l0, some (.int x)] (.int x :: st) σ r := ev_iload_n cm_193 dX11_townTold_155 rfl rfl
theorem x193_156 : Ev L xs 9 193 156 [l0, l1] (.int x :: .ref a :: []) (n, I, Lm, Rm) r ↔ (a < n ∧ shp a = (0, 11)) ∧ ∃ v n2 I2 L2 R2, Em L xs 211 [.ref a, .int x] (n, I, Lm, Rm) (v, n2, I2, L2, R2) ∧ Ev L xs 9 193 159 [l0, l1] (v.toList ++ []) (n2, I2, L2, R2) r := ev_cV cm_193 [.int x] dX11_townTold_156 rfl rfl rfl rfl (Nat.le_of_ble_eq_true rfl) (rka_lt rfl (by decide)) (Nat.le_of_ble_eq_true rfl)
theorem x193_159 : Ev L xs ρ 193 159 [some (.ref a), l1] st σ r ↔ Ev L xs ρ 193 160 [some (.ref a), l1] (.ref a :: st) σ r := ev_aload_n cm_193 dX11_townTold_159 rfl rfl
theorem x193_160 : Ev L xs ρ 193 160 [l0, l1] st σ r ↔ Ev L xs ρ 193 162 [l0, l1] (.int (59) :: st) σ r := ev_bipush cm_193 dX11_townTold_160 (by decide)
theorem x193_162 : Ev L xs 9 193 162 [l0, l1] (.int x :: .ref a :: []) (n, I, Lm, Rm) r ↔ (a < n ∧ shp a = (0, 11)) ∧ ∃ v n2 I2 L2 R2, Em L xs 178 [.ref a, .int x] (n, I, Lm, Rm) (v, n2, I2, L2, R2) ∧ Ev L xs 9 193 165 [l0, l1] (v.toList ++ []) (n2, I2, L2, R2) r := ev_cV cm_193 [.int x] dX11_townTold_162 rfl rfl rfl rfl (Nat.le_of_ble_eq_true rfl) (rka_lt rfl (by decide)) (Nat.le_of_ble_eq_true rfl)
theorem x193_165 : Ev L xs ρ 193 165 [some (.ref a), l1] st σ r ↔ Ev L xs ρ 193 166 [some (.ref a), l1] (.ref a :: st) σ r := ev_aload_n cm_193 dX11_townTold_165 rfl rfl
theorem x193_166 : Ev L xs ρ 193 166 [l0, l1] (.ref a :: st) σ r ↔ Ev L xs ρ 193 167 [l0, l1] (.ref a :: .ref a :: st) σ r := ev_nx (ev_ex cm_193 dX11_townTold_166 rfl rfl)
theorem x193_167 : Ev L xs ρ 193 167 [l0, l1] (.ref a :: st) (n, I, Lm, Rm) r ↔ (a < n ∧ shp a = (0, 11)) ∧ Ev L xs ρ 193 170 [l0, l1] (.int (I a 53) :: st) (n, I, Lm, Rm) r := ev_gtI cm_193 dX11_townTold_167 rfl rfl
theorem x193_170 : Ev L xs ρ 193 170 [l0, l1] st σ r ↔ Ev L xs ρ 193 171 [l0, l1] (.int (1) :: st) σ r := ev_iconst cm_193 dX11_townTold_170 (by decide)
theorem x193_171 : Ev L xs ρ 193 171 [l0, l1] (.int y :: .int x :: st) σ r ↔ Ev L xs ρ 193 172 [l0, l1] (.int (x + y) :: st) σ r := ev_nx (ev_ex cm_193 dX11_townTold_171 rfl rfl)
theorem x193_172 : Ev L xs ρ 193 172 [l0, l1] (.int x :: .ref a :: st) (n, I, Lm, Rm) r ↔ (a < n ∧ shp a = (0, 11)) ∧ Ev L xs ρ 193 175 [l0, l1] st (n, up2 I a 53 x, Lm, Rm) r := ev_ptI cm_193 dX11_townTold_172 rfl rfl (Or.inl rfl)
theorem x193_175 : Ev L xs ρ 193 175 [l0, l1] [] σ r ↔ r = (none, σ) := ev_retv cm_193 dX11_townTold_175 rfl
theorem cm_194 : mcd 194 = cX11_town := rfl
theorem em_194 : Em L xs 194 [.ref a] σ r ↔ Ev L xs 10 194 0 [some (.ref a), none] [] σ r := Iff.rfl
theorem x194_0 : Ev L xs ρ 194 0 [some (.ref a), l1] st σ r ↔ Ev L xs ρ 194 1 [some (.ref a), l1] (.ref a :: st) σ r := ev_aload_n cm_194 dX11_town_0 rfl rfl
theorem x194_1 : Ev L xs 10 194 1 [l0, l1] (.ref a :: []) (n, I, Lm, Rm) r ↔ (a < n ∧ shp a = (0, 11)) ∧ ∃ v n2 I2 L2 R2, Em L xs 182 [.ref a] (n, I, Lm, Rm) (v, n2, I2, L2, R2) ∧ Ev L xs 10 194 4 [l0, l1] (v.toList ++ []) (n2, I2, L2, R2) r := ev_cV cm_194 [] dX11_town_1 rfl rfl rfl rfl (Nat.le_of_ble_eq_true rfl) (rka_lt rfl (by decide)) (Nat.le_of_ble_eq_true rfl)
theorem x194_4 : Ev L xs ρ 194 4 [l0, l1] st σ r ↔ Ev L xs ρ 194 5 [l0, l1] (.int (0) :: st) σ r := ev_iconst cm_194 dX11_town_4 (by decide)
theorem x194_5 : Ev L xs ρ 194 5 [l0, l1] (.int x :: st) σ r ↔ Ev L xs ρ 194 6 [l0, some (.int x)] st σ r := ev_istore_n cm_194 dX11_town_5 rfl (Nat.le_of_ble_eq_true rfl)
theorem x194_6 : Ev L xs ρ 194 6 [l0, some (.int x)] st σ r ↔ Ev L xs ρ 194 7 [l0, some (.int x)] (.int x :: st) σ r := ev_iload_n cm_194 dX11_town_6 rfl rfl
theorem x194_7 : Ev L xs ρ 194 7 [l0, l1] st σ r ↔ Ev L xs ρ 194 8 [l0, l1] (.int (3) :: st) σ r := ev_iconst cm_194 dX11_town_7 (by decide)
theorem x194_8 : Ev L xs ρ 194 8 [l0, l1] (.int y :: .int x :: st) σ r ↔ if y ≤ x then Ev L xs ρ 194 24 [l0, l1] st σ r else Ev L xs ρ 194 11 [l0, l1] st σ r := ev_icge cm_194 dX11_town_8 (by decide)
theorem x194_11 : Ev L xs ρ 194 11 [some (.ref a), l1] st σ r ↔ Ev L xs ρ 194 12 [some (.ref a), l1] (.ref a :: st) σ r := ev_aload_n cm_194 dX11_town_11 rfl rfl
theorem x194_12 : Ev L xs ρ 194 12 [l0, l1] (.ref a :: st) (n, I, Lm, Rm) r ↔ (a < n ∧ shp a = (0, 11)) ∧ Ev L xs ρ 194 15 [l0, l1] (rfv (Rm a 44) :: st) (n, I, Lm, Rm) r := ev_gtR cm_194 dX11_town_12 rfl rfl
theorem x194_15 : Ev L xs ρ 194 15 [l0, some (.int x)] st σ r ↔ Ev L xs ρ 194 16 [l0, some (.int x)] (.int x :: st) σ r := ev_iload_n cm_194 dX11_town_15 rfl rfl
theorem x194_16 : Ev L xs ρ 194 16 [l0, l1] st σ r ↔ Ev L xs ρ 194 17 [l0, l1] (.int (0) :: st) σ r := ev_iconst cm_194 dX11_town_16 (by decide)
theorem x194_17 : Ev L xs ρ 194 17 [l0, l1] (.int y :: .int x :: .ref a :: st) (n, I, Lm, Rm) r ↔ ((a < n ∧ (shp a).1 = 1) ∧ inb x (shp a).2) ∧ Ev L xs ρ 194 18 [l0, l1] st (n, up2 I a (ixn x) y, Lm, Rm) r := ev_iast cm_194 dX11_town_17
theorem x194_18 : Ev L xs ρ 194 18 [l0, some (.int x)] st σ r ↔ Ev L xs ρ 194 21 [l0, some (.int (x + (1)))] st σ r := ev_iinc cm_194 dX11_town_18 rfl (by decide)
theorem x194_21 : Ev L xs ρ 194 21 [l0, l1] st σ r ↔ Ev L xs ρ 194 6 [l0, l1] st σ r := ev_goto cm_194 dX11_town_21 (by decide)
theorem x194_24 : Ev L xs ρ 194 24 [some (.ref a), l1] st σ r ↔ Ev L xs ρ 194 25 [some (.ref a), l1] (.ref a :: st) σ r := ev_aload_n cm_194 dX11_town_24 rfl rfl
theorem x194_25 : Ev L xs ρ 194 25 [l0, l1] st σ r ↔ Ev L xs ρ 194 26 [l0, l1] (.int (0) :: st) σ r := ev_iconst cm_194 dX11_town_25 (by decide)
theorem x194_26 : Ev L xs ρ 194 26 [l0, l1] (.int x :: .ref a :: st) (n, I, Lm, Rm) r ↔ (a < n ∧ shp a = (0, 11)) ∧ Ev L xs ρ 194 29 [l0, l1] st (n, up2 I a 50 x, Lm, Rm) r := ev_ptI cm_194 dX11_town_26 rfl rfl (Or.inl rfl)
theorem x194_29 : Ev L xs ρ 194 29 [some (.ref a), l1] st σ r ↔ Ev L xs ρ 194 30 [some (.ref a), l1] (.ref a :: st) σ r := ev_aload_n cm_194 dX11_town_29 rfl rfl
theorem x194_30 : Ev L xs ρ 194 30 [l0, l1] (.ref a :: st) (n, I, Lm, Rm) r ↔ (a < n ∧ shp a = (0, 11)) ∧ Ev L xs ρ 194 33 [l0, l1] (rfv (Rm a 60) :: st) (n, I, Lm, Rm) r := ev_gtR cm_194 dX11_town_30 rfl rfl
theorem x194_33 : Ev L xs ρ 194 33 [l0, l1] st σ r ↔ Ev L xs ρ 194 34 [l0, l1] (.int (1) :: st) σ r := ev_iconst cm_194 dX11_town_33 (by decide)
theorem x194_34 : Ev L xs ρ 194 34 [l0, l1] st σ r ↔ Ev L xs ρ 194 35 [l0, l1] (.int (0) :: st) σ r := ev_iconst cm_194 dX11_town_34 (by decide)
theorem x194_35 : Ev L xs ρ 194 35 [l0, l1] (.int y :: .int x :: .ref a :: st) (n, I, Lm, Rm) r ↔ ((a < n ∧ (shp a).1 = 1) ∧ inb x (shp a).2) ∧ Ev L xs ρ 194 36 [l0, l1] st (n, up2 I a (ixn x) y, Lm, Rm) r := ev_iast cm_194 dX11_town_35
theorem x194_36 : Ev L xs ρ 194 36 [some (.ref a), l1] st σ r ↔ Ev L xs ρ 194 37 [some (.ref a), l1] (.ref a :: st) σ r := ev_aload_n cm_194 dX11_town_36 rfl rfl
theorem x194_37 : Ev L xs ρ 194 37 [l0, l1] st σ r ↔ Ev L xs ρ 194 39 [l0, l1] (.int (40) :: st) σ r := ev_bipush cm_194 dX11_town_37 (by decide)
theorem x194_39 : Ev L xs ρ 194 39 [l0, l1] (.int x :: .ref a :: st) (n, I, Lm, Rm) r ↔ (a < n ∧ shp a = (0, 11)) ∧ Ev L xs ρ 194 42 [l0, l1] st (n, up2 I a 54 x, Lm, Rm) r := ev_ptI cm_194 dX11_town_39 rfl rfl (Or.inl rfl)
theorem x194_42 : Ev L xs ρ 194 42 [some (.ref a), l1] st σ r ↔ Ev L xs ρ 194 43 [some (.ref a), l1] (.ref a :: st) σ r := ev_aload_n cm_194 dX11_town_42 rfl rfl
theorem x194_43 : Ev L xs ρ 194 43 [l0, l1] (.ref a :: st) (n, I, Lm, Rm) r ↔ (a < n ∧ shp a = (0, 11)) ∧ Ev L xs ρ 194 46 [l0, l1] (.int (I a 5) :: st) (n, I, Lm, Rm) r := ev_gtI cm_194 dX11_town_43 rfl rfl
theorem x194_46 : Ev L xs ρ 194 46 [l0, l1] (.int x :: st) σ r ↔ if x = 0 then Ev L xs ρ 194 49 [l0, l1] st σ r else Ev L xs ρ 194 64 [l0, l1] st σ r := ev_ifne cm_194 dX11_town_46 (by decide)
theorem x194_49 : Ev L xs ρ 194 49 [some (.ref a), l1] st σ r ↔ Ev L xs ρ 194 50 [some (.ref a), l1] (.ref a :: st) σ r := ev_aload_n cm_194 dX11_town_49 rfl rfl
theorem x194_50 : Ev L xs 10 194 50 [l0, l1] (.ref a :: []) (n, I, Lm, Rm) r ↔ (a < n ∧ shp a = (0, 11)) ∧ ∃ v n2 I2 L2 R2, Em L xs 173 [.ref a] (n, I, Lm, Rm) (v, n2, I2, L2, R2) ∧ Ev L xs 10 194 53 [l0, l1] (v.toList ++ []) (n2, I2, L2, R2) r := ev_cV cm_194 [] dX11_town_50 rfl rfl rfl rfl (Nat.le_of_ble_eq_true rfl) (rka_lt rfl (by decide)) (Nat.le_of_ble_eq_true rfl)
theorem x194_53 : Ev L xs ρ 194 53 [l0, l1] st σ r ↔ Ev L xs ρ 194 54 [l0, l1] (.int (-1) :: st) σ r := ev_iconst cm_194 dX11_town_53 (by decide)
theorem x194_54 : Ev L xs ρ 194 54 [l0, l1] (.int y :: .int x :: st) σ r ↔ if x = y then Ev L xs ρ 194 64 [l0, l1] st σ r else Ev L xs ρ 194 57 [l0, l1] st σ r := ev_iceq cm_194 dX11_town_54 (by decide)
theorem x194_57 : Ev L xs ρ 194 57 [some (.ref a), l1] st σ r ↔ Ev L xs ρ 194 58 [some (.ref a), l1] (.ref a :: st) σ r := ev_aload_n cm_194 dX11_town_57 rfl rfl
theorem x194_58 : Ev L xs 10 194 58 [l0, l1] (.ref a :: []) (n, I, Lm, Rm) r ↔ (a < n ∧ shp a = (0, 11)) ∧ ∃ v n2 I2 L2 R2, Em L xs 193 [.ref a] (n, I, Lm, Rm) (v, n2, I2, L2, R2) ∧ Ev L xs 10 194 61 [l0, l1] (v.toList ++ []) (n2, I2, L2, R2) r := ev_cV cm_194 [] dX11_town_58 rfl rfl rfl rfl (Nat.le_of_ble_eq_true rfl) (rka_lt rfl (by decide)) (Nat.le_of_ble_eq_true rfl)
theorem x194_61 : Ev L xs ρ 194 61 [l0, l1] st σ r ↔ Ev L xs ρ 194 42 [l0, l1] st σ r := ev_goto cm_194 dX11_town_61 (by decide)
theorem x194_64 : Ev L xs ρ 194 64 [some (.ref a), l1] st σ r ↔ Ev L xs ρ 194 65 [some (.ref a), l1] (.ref a :: st) σ r := ev_aload_n cm_194 dX11_town_64 rfl rfl
theorem x194_65 : Ev L xs ρ 194 65 [some (.ref a), l1] st σ r ↔ Ev L xs ρ 194 66 [some (.ref a), l1] (.ref a :: st) σ r := ev_aload_n cm_194 dX11_town_65 rfl rfl
theorem x194_66 : Ev L xs ρ 194 66 [l0, l1] (.ref a :: st) (n, I, Lm, Rm) r ↔ (a < n ∧ shp a = (0, 11)) ∧ Ev L xs ρ 194 69 [l0, l1] (.int (I a 5) :: st) (n, I, Lm, Rm) r := ev_gtI cm_194 dX11_town_66 rfl rfl
theorem x194_69 : Ev L xs ρ 194 69 [l0, l1] (.int x :: .ref a :: st) (n, I, Lm, Rm) r ↔ (a < n ∧ shp a = (0, 11)) ∧ Ev L xs ρ 194 72 [l0, l1] st (n, up2 I a 7 x, Lm, Rm) r := ev_ptI cm_194 dX11_town_69 rfl rfl (Or.inl rfl)
theorem x194_72 : Ev L xs ρ 194 72 [some (.ref a), l1] st σ r ↔ Ev L xs ρ 194 73 [some (.ref a), l1] (.ref a :: st) σ r := ev_aload_n cm_194 dX11_town_72 rfl rfl
theorem x194_73 : Ev L xs ρ 194 73 [some (.ref a), l1] st σ r ↔ Ev L xs ρ 194 74 [some (.ref a), l1] (.ref a :: st) σ r := ev_aload_n cm_194 dX11_town_73 rfl rfl
theorem x194_74 : Ev L xs ρ 194 74 [l0, l1] (.ref a :: st) (n, I, Lm, Rm) r ↔ (a < n ∧ shp a = (0, 11)) ∧ Ev L xs ρ 194 77 [l0, l1] (.int (I a 6) :: st) (n, I, Lm, Rm) r := ev_gtI cm_194 dX11_town_74 rfl rfl
theorem x194_77 : Ev L xs ρ 194 77 [l0, l1] (.int x :: .ref a :: st) (n, I, Lm, Rm) r ↔ (a < n ∧ shp a = (0, 11)) ∧ Ev L xs ρ 194 80 [l0, l1] st (n, up2 I a 8 x, Lm, Rm) r := ev_ptI cm_194 dX11_town_77 rfl rfl (Or.inl rfl)
theorem x194_80 : Ev L xs ρ 194 80 [some (.ref a), l1] st σ r ↔ Ev L xs ρ 194 81 [some (.ref a), l1] (.ref a :: st) σ r := ev_aload_n cm_194 dX11_town_80 rfl rfl
theorem x194_81 : Ev L xs ρ 194 81 [l0, l1] (.ref a :: st) (n, I, Lm, Rm) r ↔ (a < n ∧ shp a = (0, 11)) ∧ Ev L xs ρ 194 84 [l0, l1] (.int (I a 5) :: st) (n, I, Lm, Rm) r := ev_gtI cm_194 dX11_town_81 rfl rfl
theorem x194_84 : Ev L xs ρ 194 84 [l0, l1] (.int x :: st) σ r ↔ if x = 0 then Ev L xs ρ 194 89 [l0, l1] st σ r else Ev L xs ρ 194 87 [l0, l1] st σ r := ev_ifeq cm_194 dX11_town_84 (by decide)
theorem x194_87 : Ev L xs ρ 194 87 [l0, l1] st σ r ↔ Ev L xs ρ 194 88 [l0, l1] (.int (-1) :: st) σ r := ev_iconst cm_194 dX11_town_87 (by decide)
theorem x194_88 : Ev L xs ρ 194 88 [l0, l1] [.int x] σ r ↔ r = (some (.int x), σ) := ev_reti cm_194 dX11_town_88 rfl
theorem x194_89 : Ev L xs ρ 194 89 [some (.ref a), l1] st σ r ↔ Ev L xs ρ 194 90 [some (.ref a), l1] (.ref a :: st) σ r := ev_aload_n cm_194 dX11_town_89 rfl rfl
theorem x194_90 : Ev L xs 10 194 90 [l0, l1] (.ref a :: []) (n, I, Lm, Rm) r ↔ (a < n ∧ shp a = (0, 11)) ∧ ∃ v n2 I2 L2 R2, Em L xs 195 [.ref a] (n, I, Lm, Rm) (v, n2, I2, L2, R2) ∧ Ev L xs 10 194 93 [l0, l1] (v.toList ++ []) (n2, I2, L2, R2) r := ev_cV cm_194 [] dX11_town_90 rfl rfl rfl rfl (Nat.le_of_ble_eq_true rfl) (rka_lt rfl (by decide)) (Nat.le_of_ble_eq_true rfl)
theorem x194_93 : Ev L xs ρ 194 93 [some (.ref a), l1] st σ r ↔ Ev L xs ρ 194 94 [some (.ref a), l1] (.ref a :: st) σ r := ev_aload_n cm_194 dX11_town_93 rfl rfl
theorem x194_94 : Ev L xs ρ 194 94 [l0, l1] (.ref a :: st) (n, I, Lm, Rm) r ↔ (a < n ∧ shp a = (0, 11)) ∧ Ev L xs ρ 194 97 [l0, l1] (.int (I a 53) :: st) (n, I, Lm, Rm) r := ev_gtI cm_194 dX11_town_94 rfl rfl
theorem x194_97 : Ev L xs ρ 194 97 [l0, l1] [.int x] σ r ↔ r = (some (.int x), σ) := ev_reti cm_194 dX11_town_97 rfl
theorem cm_195 : mcd 195 = cX11_stands := rfl
theorem em_195 : Em L xs 195 [.ref a] σ r ↔ Ev L xs 0 195 0 [some (.ref a), none] [] σ r := Iff.rfl
theorem x195_0 : Ev L xs ρ 195 0 [l0, l1] st σ r ↔ Ev L xs ρ 195 1 [l0, l1] (.int (0) :: st) σ r := ev_iconst cm_195 dX11_stands_0 (by decide)
theorem x195_1 : Ev L xs ρ 195 1 [l0, l1] (.int x :: st) σ r ↔ Ev L xs ρ 195 2 [l0, some (.int x)] st σ r := ev_istore_n cm_195 dX11_stands_1 rfl (Nat.le_of_ble_eq_true rfl)
theorem x195_2 : Ev L xs ρ 195 2 [l0, some (.int x)] st σ r ↔ Ev L xs ρ 195 3 [l0, some (.int x)] (.int x :: st) σ r := ev_iload_n cm_195 dX11_stands_2 rfl rfl
theorem x195_3 : Ev L xs ρ 195 3 [l0, l1] st σ r ↔ Ev L xs ρ 195 4 [l0, l1] (.int (3) :: st) σ r := ev_iconst cm_195 dX11_stands_3 (by decide)
theorem x195_4 : Ev L xs ρ 195 4 [l0, l1] (.int y :: .int x :: st) σ r ↔ if y ≤ x then Ev L xs ρ 195 27 [l0, l1] st σ r else Ev L xs ρ 195 7 [l0, l1] st σ r := ev_icge cm_195 dX11_stands_4 (by decide)
theorem x195_7 : Ev L xs ρ 195 7 [some (.ref a), l1] st σ r ↔ Ev L xs ρ 195 8 [some (.ref a), l1] (.ref a :: st) σ r := ev_aload_n cm_195 dX11_stands_7 rfl rfl
theorem x195_8 : Ev L xs ρ 195 8 [l0, l1] (.ref a :: st) (n, I, Lm, Rm) r ↔ (a < n ∧ shp a = (0, 11)) ∧ Ev L xs ρ 195 11 [l0, l1] (rfv (Rm a 44) :: st) (n, I, Lm, Rm) r := ev_gtR cm_195 dX11_stands_8 rfl rfl
theorem x195_11 : Ev L xs ρ 195 11 [l0, l1] st σ r ↔ Ev L xs ρ 195 12 [l0, l1] (.int (3) :: st) σ r := ev_iconst cm_195 dX11_stands_11 (by decide)
theorem x195_12 : Ev L xs ρ 195 12 [l0, some (.int x)] st σ r ↔ Ev L xs ρ 195 13 [l0, some (.int x)] (.int x :: st) σ r := ev_iload_n cm_195 dX11_stands_12 rfl rfl
theorem x195_13 : Ev L xs ρ 195 13 [l0, l1] (.int y :: .int x :: st) σ r ↔ Ev L xs ρ 195 14 [l0, l1] (.int (x + y) :: st) σ r := ev_nx (ev_ex cm_195 dX11_stands_13 rfl rfl)
theorem x195_14 : Ev L xs ρ 195 14 [some (.ref a), l1] st σ r ↔ Ev L xs ρ 195 15 [some (.ref a), l1] (.ref a :: st) σ r := ev_aload_n cm_195 dX11_stands_14 rfl rfl
theorem x195_15 : Ev L xs ρ 195 15 [l0, l1] (.ref a :: st) (n, I, Lm, Rm) r ↔ (a < n ∧ shp a = (0, 11)) ∧ Ev L xs ρ 195 18 [l0, l1] (rfv (Rm a 44) :: st) (n, I, Lm, Rm) r := ev_gtR cm_195 dX11_stands_15 rfl rfl
theorem x195_18 : Ev L xs ρ 195 18 [l0, some (.int x)] st σ r ↔ Ev L xs ρ 195 19 [l0, some (.int x)] (.int x :: st) σ r := ev_iload_n cm_195 dX11_stands_18 rfl rfl
theorem x195_19 : Ev L xs ρ 195 19 [l0, l1] (.int x :: .ref a :: st) (n, I, Lm, Rm) r ↔ ((a < n ∧ (shp a).1 = 1) ∧ inb x (shp a).2) ∧ Ev L xs ρ 195 20 [l0, l1] (.int (I a (ixn x)) :: st) (n, I, Lm, Rm) r := ev_iald cm_195 dX11_stands_19 (by decide)
theorem x195_20 : Ev L xs ρ 195 20 [l0, l1] (.int y :: .int x :: .ref a :: st) (n, I, Lm, Rm) r ↔ ((a < n ∧ (shp a).1 = 1) ∧ inb x (shp a).2) ∧ Ev L xs ρ 195 21 [l0, l1] st (n, up2 I a (ixn x) y, Lm, Rm) r := ev_iast cm_195 dX11_stands_20
theorem x195_21 : Ev L xs ρ 195 21 [l0, some (.int x)] st σ r ↔ Ev L xs ρ 195 24 [l0, some (.int (x + (1)))] st σ r := ev_iinc cm_195 dX11_stands_21 rfl (by decide)
theorem x195_24 : Ev L xs ρ 195 24 [l0, l1] st σ r ↔ Ev L xs ρ 195 2 [l0, l1] st σ r := ev_goto cm_195 dX11_stands_24 (by decide)
theorem x195_27 : Ev L xs ρ 195 27 [l0, l1] st σ r ↔ Ev L xs ρ 195 28 [l0, l1] (.int (0) :: st) σ r := ev_iconst cm_195 dX11_stands_27 (by decide)
theorem x195_28 : Ev L xs ρ 195 28 [l0, l1] (.int x :: st) σ r ↔ Ev L xs ρ 195 29 [l0, some (.int x)] st σ r := ev_istore_n cm_195 dX11_stands_28 rfl (Nat.le_of_ble_eq_true rfl)
theorem x195_29 : Ev L xs ρ 195 29 [l0, some (.int x)] st σ r ↔ Ev L xs ρ 195 30 [l0, some (.int x)] (.int x :: st) σ r := ev_iload_n cm_195 dX11_stands_29 rfl rfl
theorem x195_30 : Ev L xs ρ 195 30 [l0, l1] st σ r ↔ Ev L xs ρ 195 32 [l0, l1] (.int (36) :: st) σ r := ev_bipush cm_195 dX11_stands_30 (by decide)
theorem x195_32 : Ev L xs ρ 195 32 [l0, l1] (.int y :: .int x :: st) σ r ↔ if y ≤ x then Ev L xs ρ 195 56 [l0, l1] st σ r else Ev L xs ρ 195 35 [l0, l1] st σ r := ev_icge cm_195 dX11_stands_32 (by decide)
theorem x195_35 : Ev L xs ρ 195 35 [some (.ref a), l1] st σ r ↔ Ev L xs ρ 195 36 [some (.ref a), l1] (.ref a :: st) σ r := ev_aload_n cm_195 dX11_stands_35 rfl rfl
theorem x195_36 : Ev L xs ρ 195 36 [l0, l1] (.ref a :: st) (n, I, Lm, Rm) r ↔ (a < n ∧ shp a = (0, 11)) ∧ Ev L xs ρ 195 39 [l0, l1] (rfv (Rm a 43) :: st) (n, I, Lm, Rm) r := ev_gtR cm_195 dX11_stands_36 rfl rfl
theorem x195_39 : Ev L xs ρ 195 39 [l0, l1] st σ r ↔ Ev L xs ρ 195 41 [l0, l1] (.int (36) :: st) σ r := ev_bipush cm_195 dX11_stands_39 (by decide)
theorem x195_41 : Ev L xs ρ 195 41 [l0, some (.int x)] st σ r ↔ Ev L xs ρ 195 42 [l0, some (.int x)] (.int x :: st) σ r := ev_iload_n cm_195 dX11_stands_41 rfl rfl
theorem x195_42 : Ev L xs ρ 195 42 [l0, l1] (.int y :: .int x :: st) σ r ↔ Ev L xs ρ 195 43 [l0, l1] (.int (x + y) :: st) σ r := ev_nx (ev_ex cm_195 dX11_stands_42 rfl rfl)
theorem x195_43 : Ev L xs ρ 195 43 [some (.ref a), l1] st σ r ↔ Ev L xs ρ 195 44 [some (.ref a), l1] (.ref a :: st) σ r := ev_aload_n cm_195 dX11_stands_43 rfl rfl
theorem x195_44 : Ev L xs ρ 195 44 [l0, l1] (.ref a :: st) (n, I, Lm, Rm) r ↔ (a < n ∧ shp a = (0, 11)) ∧ Ev L xs ρ 195 47 [l0, l1] (rfv (Rm a 43) :: st) (n, I, Lm, Rm) r := ev_gtR cm_195 dX11_stands_44 rfl rfl
theorem x195_47 : Ev L xs ρ 195 47 [l0, some (.int x)] st σ r ↔ Ev L xs ρ 195 48 [l0, some (.int x)] (.int x :: st) σ r := ev_iload_n cm_195 dX11_stands_47 rfl rfl
theorem x195_48 : Ev L xs ρ 195 48 [l0, l1] (.int x :: .ref a :: st) (n, I, Lm, Rm) r ↔ ((a < n ∧ (shp a).1 = 3) ∧ inb x (shp a).2) ∧ Ev L xs ρ 195 49 [l0, l1] (.long (Lm a (ixn x)) :: st) (n, I, Lm, Rm) r := ev_lald cm_195 dX11_stands_48
theorem x195_49 : Ev L xs ρ 195 49 [l0, l1] (.long u :: .int x :: .ref a :: st) (n, I, Lm, Rm) r ↔ ((a < n ∧ (shp a).1 = 3) ∧ inb x (shp a).2) ∧ Ev L xs ρ 195 50 [l0, l1] st (n, I, up2 Lm a (ixn x) u, Rm) r := ev_last cm_195 dX11_stands_49
theorem x195_50 : Ev L xs ρ 195 50 [l0, some (.int x)] st σ r ↔ Ev L xs ρ 195 53 [l0, some (.int (x + (1)))] st σ r := ev_iinc cm_195 dX11_stands_50 rfl (by decide)
theorem x195_53 : Ev L xs ρ 195 53 [l0, l1] st σ r ↔ Ev L xs ρ 195 29 [l0, l1] st σ r := ev_goto cm_195 dX11_stands_53 (by decide)
theorem x195_56 : Ev L xs ρ 195 56 [l0, l1] st σ r ↔ Ev L xs ρ 195 57 [l0, l1] (.int (0) :: st) σ r := ev_iconst cm_195 dX11_stands_56 (by decide)
theorem x195_57 : Ev L xs ρ 195 57 [l0, l1] (.int x :: st) σ r ↔ Ev L xs ρ 195 58 [l0, some (.int x)] st σ r := ev_istore_n cm_195 dX11_stands_57 rfl (Nat.le_of_ble_eq_true rfl)
theorem x195_58 : Ev L xs ρ 195 58 [l0, some (.int x)] st σ r ↔ Ev L xs ρ 195 59 [l0, some (.int x)] (.int x :: st) σ r := ev_iload_n cm_195 dX11_stands_58 rfl rfl
theorem x195_59 : Ev L xs ρ 195 59 [l0, l1] st σ r ↔ Ev L xs ρ 195 61 [l0, l1] (.int (30) :: st) σ r := ev_bipush cm_195 dX11_stands_59 (by decide)
theorem x195_61 : Ev L xs ρ 195 61 [l0, l1] (.int y :: .int x :: st) σ r ↔ if y ≤ x then Ev L xs ρ 195 85 [l0, l1] st σ r else Ev L xs ρ 195 64 [l0, l1] st σ r := ev_icge cm_195 dX11_stands_61 (by decide)
theorem x195_64 : Ev L xs ρ 195 64 [some (.ref a), l1] st σ r ↔ Ev L xs ρ 195 65 [some (.ref a), l1] (.ref a :: st) σ r := ev_aload_n cm_195 dX11_stands_64 rfl rfl
theorem x195_65 : Ev L xs ρ 195 65 [l0, l1] (.ref a :: st) (n, I, Lm, Rm) r ↔ (a < n ∧ shp a = (0, 11)) ∧ Ev L xs ρ 195 68 [l0, l1] (rfv (Rm a 45) :: st) (n, I, Lm, Rm) r := ev_gtR cm_195 dX11_stands_65 rfl rfl
theorem x195_68 : Ev L xs ρ 195 68 [l0, l1] st σ r ↔ Ev L xs ρ 195 70 [l0, l1] (.int (30) :: st) σ r := ev_bipush cm_195 dX11_stands_68 (by decide)
theorem x195_70 : Ev L xs ρ 195 70 [l0, some (.int x)] st σ r ↔ Ev L xs ρ 195 71 [l0, some (.int x)] (.int x :: st) σ r := ev_iload_n cm_195 dX11_stands_70 rfl rfl
theorem x195_71 : Ev L xs ρ 195 71 [l0, l1] (.int y :: .int x :: st) σ r ↔ Ev L xs ρ 195 72 [l0, l1] (.int (x + y) :: st) σ r := ev_nx (ev_ex cm_195 dX11_stands_71 rfl rfl)
theorem x195_72 : Ev L xs ρ 195 72 [some (.ref a), l1] st σ r ↔ Ev L xs ρ 195 73 [some (.ref a), l1] (.ref a :: st) σ r := ev_aload_n cm_195 dX11_stands_72 rfl rfl
theorem x195_73 : Ev L xs ρ 195 73 [l0, l1] (.ref a :: st) (n, I, Lm, Rm) r ↔ (a < n ∧ shp a = (0, 11)) ∧ Ev L xs ρ 195 76 [l0, l1] (rfv (Rm a 45) :: st) (n, I, Lm, Rm) r := ev_gtR cm_195 dX11_stands_73 rfl rfl
theorem x195_76 : Ev L xs ρ 195 76 [l0, some (.int x)] st σ r ↔ Ev L xs ρ 195 77 [l0, some (.int x)] (.int x :: st) σ r := ev_iload_n cm_195 dX11_stands_76 rfl rfl
theorem x195_77 : Ev L xs ρ 195 77 [l0, l1] (.int x :: .ref a :: st) (n, I, Lm, Rm) r ↔ ((a < n ∧ (shp a).1 = 1) ∧ inb x (shp a).2) ∧ Ev L xs ρ 195 78 [l0, l1] (.int (I a (ixn x)) :: st) (n, I, Lm, Rm) r := ev_iald cm_195 dX11_stands_77 (by decide)
theorem x195_78 : Ev L xs ρ 195 78 [l0, l1] (.int y :: .int x :: .ref a :: st) (n, I, Lm, Rm) r ↔ ((a < n ∧ (shp a).1 = 1) ∧ inb x (shp a).2) ∧ Ev L xs ρ 195 79 [l0, l1] st (n, up2 I a (ixn x) y, Lm, Rm) r := ev_iast cm_195 dX11_stands_78
theorem x195_79 : Ev L xs ρ 195 79 [l0, some (.int x)] st σ r ↔ Ev L xs ρ 195 82 [l0, some (.int (x + (1)))] st σ r := ev_iinc cm_195 dX11_stands_79 rfl (by decide)
theorem x195_82 : Ev L xs ρ 195 82 [l0, l1] st σ r ↔ Ev L xs ρ 195 58 [l0, l1] st σ r := ev_goto cm_195 dX11_stands_82 (by decide)
theorem x195_85 : Ev L xs ρ 195 85 [l0, l1] st σ r ↔ Ev L xs ρ 195 86 [l0, l1] (.int (0) :: st) σ r := ev_iconst cm_195 dX11_stands_85 (by decide)
theorem x195_86 : Ev L xs ρ 195 86 [l0, l1] (.int x :: st) σ r ↔ Ev L xs ρ 195 87 [l0, some (.int x)] st σ r := ev_istore_n cm_195 dX11_stands_86 rfl (Nat.le_of_ble_eq_true rfl)
theorem x195_87 : Ev L xs ρ 195 87 [l0, some (.int x)] st σ r ↔ Ev L xs ρ 195 88 [l0, some (.int x)] (.int x :: st) σ r := ev_iload_n cm_195 dX11_stands_87 rfl rfl
theorem x195_88 : Ev L xs ρ 195 88 [l0, l1] st σ r ↔ Ev L xs ρ 195 90 [l0, l1] (.int (16) :: st) σ r := ev_bipush cm_195 dX11_stands_88 (by decide)
theorem x195_90 : Ev L xs ρ 195 90 [l0, l1] (.int y :: .int x :: st) σ r ↔ if y ≤ x then Ev L xs ρ 195 114 [l0, l1] st σ r else Ev L xs ρ 195 93 [l0, l1] st σ r := ev_icge cm_195 dX11_stands_90 (by decide)
theorem x195_93 : Ev L xs ρ 195 93 [some (.ref a), l1] st σ r ↔ Ev L xs ρ 195 94 [some (.ref a), l1] (.ref a :: st) σ r := ev_aload_n cm_195 dX11_stands_93 rfl rfl
theorem x195_94 : Ev L xs ρ 195 94 [l0, l1] (.ref a :: st) (n, I, Lm, Rm) r ↔ (a < n ∧ shp a = (0, 11)) ∧ Ev L xs ρ 195 97 [l0, l1] (rfv (Rm a 46) :: st) (n, I, Lm, Rm) r := ev_gtR cm_195 dX11_stands_94 rfl rfl
theorem x195_97 : Ev L xs ρ 195 97 [l0, l1] st σ r ↔ Ev L xs ρ 195 99 [l0, l1] (.int (16) :: st) σ r := ev_bipush cm_195 dX11_stands_97 (by decide)
theorem x195_99 : Ev L xs ρ 195 99 [l0, some (.int x)] st σ r ↔ Ev L xs ρ 195 100 [l0, some (.int x)] (.int x :: st) σ r := ev_iload_n cm_195 dX11_stands_99 rfl rfl
theorem x195_100 : Ev L xs ρ 195 100 [l0, l1] (.int y :: .int x :: st) σ r ↔ Ev L xs ρ 195 101 [l0, l1] (.int (x + y) :: st) σ r := ev_nx (ev_ex cm_195 dX11_stands_100 rfl rfl)
theorem x195_101 : Ev L xs ρ 195 101 [some (.ref a), l1] st σ r ↔ Ev L xs ρ 195 102 [some (.ref a), l1] (.ref a :: st) σ r := ev_aload_n cm_195 dX11_stands_101 rfl rfl
theorem x195_102 : Ev L xs ρ 195 102 [l0, l1] (.ref a :: st) (n, I, Lm, Rm) r ↔ (a < n ∧ shp a = (0, 11)) ∧ Ev L xs ρ 195 105 [l0, l1] (rfv (Rm a 46) :: st) (n, I, Lm, Rm) r := ev_gtR cm_195 dX11_stands_102 rfl rfl
theorem x195_105 : Ev L xs ρ 195 105 [l0, some (.int x)] st σ r ↔ Ev L xs ρ 195 106 [l0, some (.int x)] (.int x :: st) σ r := ev_iload_n cm_195 dX11_stands_105 rfl rfl
theorem x195_106 : Ev L xs ρ 195 106 [l0, l1] (.int x :: .ref a :: st) (n, I, Lm, Rm) r ↔ ((a < n ∧ (shp a).1 = 1) ∧ inb x (shp a).2) ∧ Ev L xs ρ 195 107 [l0, l1] (.int (I a (ixn x)) :: st) (n, I, Lm, Rm) r := ev_iald cm_195 dX11_stands_106 (by decide)
theorem x195_107 : Ev L xs ρ 195 107 [l0, l1] (.int y :: .int x :: .ref a :: st) (n, I, Lm, Rm) r ↔ ((a < n ∧ (shp a).1 = 1) ∧ inb x (shp a).2) ∧ Ev L xs ρ 195 108 [l0, l1] st (n, up2 I a (ixn x) y, Lm, Rm) r := ev_iast cm_195 dX11_stands_107
theorem x195_108 : Ev L xs ρ 195 108 [l0, some (.int x)] st σ r ↔ Ev L xs ρ 195 111 [l0, some (.int (x + (1)))] st σ r := ev_iinc cm_195 dX11_stands_108 rfl (by decide)
theorem x195_111 : Ev L xs ρ 195 111 [l0, l1] st σ r ↔ Ev L xs ρ 195 87 [l0, l1] st σ r := ev_goto cm_195 dX11_stands_111 (by decide)
theorem x195_114 : Ev L xs ρ 195 114 [l0, l1] st σ r ↔ Ev L xs ρ 195 115 [l0, l1] (.int (0) :: st) σ r := ev_iconst cm_195 dX11_stands_114 (by decide)
theorem x195_115 : Ev L xs ρ 195 115 [l0, l1] (.int x :: st) σ r ↔ Ev L xs ρ 195 116 [l0, some (.int x)] st σ r := ev_istore_n cm_195 dX11_stands_115 rfl (Nat.le_of_ble_eq_true rfl)
theorem x195_116 : Ev L xs ρ 195 116 [l0, some (.int x)] st σ r ↔ Ev L xs ρ 195 117 [l0, some (.int x)] (.int x :: st) σ r := ev_iload_n cm_195 dX11_stands_116 rfl rfl
theorem x195_117 : Ev L xs ρ 195 117 [some (.ref a), l1] st σ r ↔ Ev L xs ρ 195 118 [some (.ref a), l1] (.ref a :: st) σ r := ev_aload_n cm_195 dX11_stands_117 rfl rfl
theorem x195_118 : Ev L xs ρ 195 118 [l0, l1] (.ref a :: st) (n, I, Lm, Rm) r ↔ (a < n ∧ shp a = (0, 11)) ∧ Ev L xs ρ 195 121 [l0, l1] (rfv (Rm a 44) :: st) (n, I, Lm, Rm) r := ev_gtR cm_195 dX11_stands_118 rfl rfl
theorem x195_121 : Ev L xs ρ 195 121 [l0, l1] st σ r ↔ Ev L xs ρ 195 122 [l0, l1] (.int (2) :: st) σ r := ev_iconst cm_195 dX11_stands_121 (by decide)
theorem x195_122 : Ev L xs ρ 195 122 [l0, l1] (.int x :: .ref a :: st) (n, I, Lm, Rm) r ↔ ((a < n ∧ (shp a).1 = 1) ∧ inb x (shp a).2) ∧ Ev L xs ρ 195 123 [l0, l1] (.int (I a (ixn x)) :: st) (n, I, Lm, Rm) r := ev_iald cm_195 dX11_stands_122 (by decide)
theorem x195_123 : Ev L xs ρ 195 123 [l0, l1] (.int y :: .int x :: st) σ r ↔ if y ≤ x then Ev L xs ρ 195 203 [l0, l1] st σ r else Ev L xs ρ 195 126 [l0, l1] st σ r := ev_icge cm_195 dX11_stands_123 (by decide)
theorem x195_126 : Ev L xs ρ 195 126 [some (.ref a), l1] st σ r ↔ Ev L xs ρ 195 127 [some (.ref a), l1] (.ref a :: st) σ r := ev_aload_n cm_195 dX11_stands_126 rfl rfl
theorem x195_127 : Ev L xs ρ 195 127 [l0, l1] (.ref a :: st) (n, I, Lm, Rm) r ↔ (a < n ∧ shp a = (0, 11)) ∧ Ev L xs ρ 195 130 [l0, l1] (rfv (Rm a 66) :: st) (n, I, Lm, Rm) r := ev_gtR cm_195 dX11_stands_127 rfl rfl
theorem x195_130 : Ev L xs ρ 195 130 [l0, some (.int x)] st σ r ↔ Ev L xs ρ 195 131 [l0, some (.int x)] (.int x :: st) σ r := ev_iload_n cm_195 dX11_stands_130 rfl rfl
theorem x195_131 : Ev L xs ρ 195 131 [some (.ref a), l1] st σ r ↔ Ev L xs ρ 195 132 [some (.ref a), l1] (.ref a :: st) σ r := ev_aload_n cm_195 dX11_stands_131 rfl rfl
theorem x195_132 : Ev L xs ρ 195 132 [l0, l1] (.ref a :: st) (n, I, Lm, Rm) r ↔ (a < n ∧ shp a = (0, 11)) ∧ Ev L xs ρ 195 135 [l0, l1] (rfv (Rm a 47) :: st) (n, I, Lm, Rm) r := ev_gtR cm_195 dX11_stands_132 rfl rfl
theorem x195_135 : Ev L xs ρ 195 135 [l0, some (.int x)] st σ r ↔ Ev L xs ρ 195 136 [l0, some (.int x)] (.int x :: st) σ r := ev_iload_n cm_195 dX11_stands_135 rfl rfl
theorem x195_136 : Ev L xs ρ 195 136 [l0, l1] (.int x :: .ref a :: st) (n, I, Lm, Rm) r ↔ ((a < n ∧ (shp a).1 = 1) ∧ inb x (shp a).2) ∧ Ev L xs ρ 195 137 [l0, l1] (.int (I a (ixn x)) :: st) (n, I, Lm, Rm) r := ev_iald cm_195 dX11_stands_136 (by decide)
theorem x195_137 : Ev L xs ρ 195 137 [l0, l1] (.int y :: .int x :: .ref a :: st) (n, I, Lm, Rm) r ↔ ((a < n ∧ (shp a).1 = 1) ∧ inb x (shp a).2) ∧ Ev L xs ρ 195 138 [l0, l1] st (n, up2 I a (ixn x) y, Lm, Rm) r := ev_iast cm_195 dX11_stands_137
theorem x195_138 : Ev L xs ρ 195 138 [some (.ref a), l1] st σ r ↔ Ev L xs ρ 195 139 [some (.ref a), l1] (.ref a :: st) σ r := ev_aload_n cm_195 dX11_stands_138 rfl rfl
theorem x195_139 : Ev L xs ρ 195 139 [l0, l1] (.ref a :: st) (n, I, Lm, Rm) r ↔ (a < n ∧ shp a = (0, 11)) ∧ Ev L xs ρ 195 142 [l0, l1] (rfv (Rm a 67) :: st) (n, I, Lm, Rm) r := ev_gtR cm_195 dX11_stands_139 rfl rfl
theorem x195_142 : Ev L xs ρ 195 142 [l0, some (.int x)] st σ r ↔ Ev L xs ρ 195 143 [l0, some (.int x)] (.int x :: st) σ r := ev_iload_n cm_195 dX11_stands_142 rfl rfl
theorem x195_143 : Ev L xs ρ 195 143 [some (.ref a), l1] st σ r ↔ Ev L xs ρ 195 144 [some (.ref a), l1] (.ref a :: st) σ r := ev_aload_n cm_195 dX11_stands_143 rfl rfl
theorem x195_144 : Ev L xs ρ 195 144 [l0, l1] (.ref a :: st) (n, I, Lm, Rm) r ↔ (a < n ∧ shp a = (0, 11)) ∧ Ev L xs ρ 195 147 [l0, l1] (rfv (Rm a 48) :: st) (n, I, Lm, Rm) r := ev_gtR cm_195 dX11_stands_144 rfl rfl
theorem x195_147 : Ev L xs ρ 195 147 [l0, some (.int x)] st σ r ↔ Ev L xs ρ 195 148 [l0, some (.int x)] (.int x :: st) σ r := ev_iload_n cm_195 dX11_stands_147 rfl rfl
theorem x195_148 : Ev L xs ρ 195 148 [l0, l1] (.int x :: .ref a :: st) (n, I, Lm, Rm) r ↔ ((a < n ∧ (shp a).1 = 1) ∧ inb x (shp a).2) ∧ Ev L xs ρ 195 149 [l0, l1] (.int (I a (ixn x)) :: st) (n, I, Lm, Rm) r := ev_iald cm_195 dX11_stands_148 (by decide)
theorem x195_149 : Ev L xs ρ 195 149 [l0, l1] (.int y :: .int x :: .ref a :: st) (n, I, Lm, Rm) r ↔ ((a < n ∧ (shp a).1 = 1) ∧ inb x (shp a).2) ∧ Ev L xs ρ 195 150 [l0, l1] st (n, up2 I a (ixn x) y, Lm, Rm) r := ev_iast cm_195 dX11_stands_149
theorem x195_150 : Ev L xs ρ 195 150 [some (.ref a), l1] st σ r ↔ Ev L xs ρ 195 151 [some (.ref a), l1] (.ref a :: st) σ r := ev_aload_n cm_195 dX11_stands_150 rfl rfl
theorem x195_151 : Ev L xs ρ 195 151 [l0, l1] (.ref a :: st) (n, I, Lm, Rm) r ↔ (a < n ∧ shp a = (0, 11)) ∧ Ev L xs ρ 195 154 [l0, l1] (rfv (Rm a 68) :: st) (n, I, Lm, Rm) r := ev_gtR cm_195 dX11_stands_151 rfl rfl
theorem x195_154 : Ev L xs ρ 195 154 [l0, some (.int x)] st σ r ↔ Ev L xs ρ 195 155 [l0, some (.int x)] (.int x :: st) σ r := ev_iload_n cm_195 dX11_stands_154 rfl rfl
theorem x195_155 : Ev L xs ρ 195 155 [some (.ref a), l1] st σ r ↔ Ev L xs ρ 195 156 [some (.ref a), l1] (.ref a :: st) σ r := ev_aload_n cm_195 dX11_stands_155 rfl rfl
theorem x195_156 : Ev L xs ρ 195 156 [l0, l1] (.ref a :: st) (n, I, Lm, Rm) r ↔ (a < n ∧ shp a = (0, 11)) ∧ Ev L xs ρ 195 159 [l0, l1] (rfv (Rm a 49) :: st) (n, I, Lm, Rm) r := ev_gtR cm_195 dX11_stands_156 rfl rfl
theorem x195_159 : Ev L xs ρ 195 159 [l0, some (.int x)] st σ r ↔ Ev L xs ρ 195 160 [l0, some (.int x)] (.int x :: st) σ r := ev_iload_n cm_195 dX11_stands_159 rfl rfl
theorem x195_160 : Ev L xs ρ 195 160 [l0, l1] (.int x :: .ref a :: st) (n, I, Lm, Rm) r ↔ ((a < n ∧ (shp a).1 = 1) ∧ inb x (shp a).2) ∧ Ev L xs ρ 195 161 [l0, l1] (.int (I a (ixn x)) :: st) (n, I, Lm, Rm) r := ev_iald cm_195 dX11_stands_160 (by decide)
theorem x195_161 : Ev L xs ρ 195 161 [l0, l1] (.int y :: .int x :: .ref a :: st) (n, I, Lm, Rm) r ↔ ((a < n ∧ (shp a).1 = 1) ∧ inb x (shp a).2) ∧ Ev L xs ρ 195 162 [l0, l1] st (n, up2 I a (ixn x) y, Lm, Rm) r := ev_iast cm_195 dX11_stands_161
theorem x195_162 : Ev L xs ρ 195 162 [some (.ref a), l1] st σ r ↔ Ev L xs ρ 195 163 [some (.ref a), l1] (.ref a :: st) σ r := ev_aload_n cm_195 dX11_stands_162 rfl rfl
theorem x195_163 : Ev L xs ρ 195 163 [l0, l1] (.ref a :: st) (n, I, Lm, Rm) r ↔ (a < n ∧ shp a = (0, 11)) ∧ Ev L xs ρ 195 166 [l0, l1] (rfv (Rm a 69) :: st) (n, I, Lm, Rm) r := ev_gtR cm_195 dX11_stands_163 rfl rfl
theorem x195_166 : Ev L xs ρ 195 166 [l0, some (.int x)] st σ r ↔ Ev L xs ρ 195 167 [l0, some (.int x)] (.int x :: st) σ r := ev_iload_n cm_195 dX11_stands_166 rfl rfl
theorem x195_167 : Ev L xs ρ 195 167 [l0, l1] st σ r ↔ Ev L xs ρ 195 168 [l0, l1] (.int (0) :: st) σ r := ev_iconst cm_195 dX11_stands_167 (by decide)
theorem x195_168 : Ev L xs ρ 195 168 [l0, l1] (.int y :: .int x :: .ref a :: st) (n, I, Lm, Rm) r ↔ ((a < n ∧ (shp a).1 = 1) ∧ inb x (shp a).2) ∧ Ev L xs ρ 195 169 [l0, l1] st (n, up2 I a (ixn x) y, Lm, Rm) r := ev_iast cm_195 dX11_stands_168
theorem x195_169 : Ev L xs ρ 195 169 [some (.ref a), l1] st σ r ↔ Ev L xs ρ 195 170 [some (.ref a), l1] (.ref a :: st) σ r := ev_aload_n cm_195 dX11_stands_169 rfl rfl
theorem x195_170 : Ev L xs ρ 195 170 [l0, l1] (.ref a :: st) (n, I, Lm, Rm) r ↔ (a < n ∧ shp a = (0, 11)) ∧ Ev L xs ρ 195 173 [l0, l1] (rfv (Rm a 70) :: st) (n, I, Lm, Rm) r := ev_gtR cm_195 dX11_stands_170 rfl rfl
theorem x195_173 : Ev L xs ρ 195 173 [l0, some (.int x)] st σ r ↔ Ev L xs ρ 195 174 [l0, some (.int x)] (.int x :: st) σ r := ev_iload_n cm_195 dX11_stands_173 rfl rfl
theorem x195_174 : Ev L xs ρ 195 174 [l0, l1] st σ r ↔ Ev L xs ρ 195 175 [l0, l1] (.int (0) :: st) σ r := ev_iconst cm_195 dX11_stands_174 (by decide)
theorem x195_175 : Ev L xs ρ 195 175 [l0, l1] (.int y :: .int x :: .ref a :: st) (n, I, Lm, Rm) r ↔ ((a < n ∧ (shp a).1 = 1) ∧ inb x (shp a).2) ∧ Ev L xs ρ 195 176 [l0, l1] st (n, up2 I a (ixn x) y, Lm, Rm) r := ev_iast cm_195 dX11_stands_175
theorem x195_176 : Ev L xs ρ 195 176 [some (.ref a), l1] st σ r ↔ Ev L xs ρ 195 177 [some (.ref a), l1] (.ref a :: st) σ r := ev_aload_n cm_195 dX11_stands_176 rfl rfl
theorem x195_177 : Ev L xs ρ 195 177 [l0, l1] (.ref a :: st) (n, I, Lm, Rm) r ↔ (a < n ∧ shp a = (0, 11)) ∧ Ev L xs ρ 195 180 [l0, l1] (rfv (Rm a 71) :: st) (n, I, Lm, Rm) r := ev_gtR cm_195 dX11_stands_177 rfl rfl
theorem x195_180 : Ev L xs ρ 195 180 [l0, some (.int x)] st σ r ↔ Ev L xs ρ 195 181 [l0, some (.int x)] (.int x :: st) σ r := ev_iload_n cm_195 dX11_stands_180 rfl rfl
theorem x195_181 : Ev L xs ρ 195 181 [l0, l1] st σ r ↔ Ev L xs ρ 195 182 [l0, l1] (.int (0) :: st) σ r := ev_iconst cm_195 dX11_stands_181 (by decide)
theorem x195_182 : Ev L xs ρ 195 182 [l0, l1] (.int y :: .int x :: .ref a :: st) (n, I, Lm, Rm) r ↔ ((a < n ∧ (shp a).1 = 1) ∧ inb x (shp a).2) ∧ Ev L xs ρ 195 183 [l0, l1] st (n, up2 I a (ixn x) y, Lm, Rm) r := ev_iast cm_195 dX11_stands_182
theorem x195_183 : Ev L xs ρ 195 183 [some (.ref a), l1] st σ r ↔ Ev L xs ρ 195 184 [some (.ref a), l1] (.ref a :: st) σ r := ev_aload_n cm_195 dX11_stands_183 rfl rfl
theorem x195_184 : Ev L xs ρ 195 184 [l0, l1] (.ref a :: st) (n, I, Lm, Rm) r ↔ (a < n ∧ shp a = (0, 11)) ∧ Ev L xs ρ 195 187 [l0, l1] (rfv (Rm a 72) :: st) (n, I, Lm, Rm) r := ev_gtR cm_195 dX11_stands_184 rfl rfl
theorem x195_187 : Ev L xs ρ 195 187 [l0, some (.int x)] st σ r ↔ Ev L xs ρ 195 188 [l0, some (.int x)] (.int x :: st) σ r := ev_iload_n cm_195 dX11_stands_187 rfl rfl
theorem x195_188 : Ev L xs ρ 195 188 [l0, l1] st σ r ↔ Ev L xs ρ 195 189 [l0, l1] (.int (-1) :: st) σ r := ev_iconst cm_195 dX11_stands_188 (by decide)
theorem x195_189 : Ev L xs ρ 195 189 [l0, l1] (.int y :: .int x :: .ref a :: st) (n, I, Lm, Rm) r ↔ ((a < n ∧ (shp a).1 = 1) ∧ inb x (shp a).2) ∧ Ev L xs ρ 195 190 [l0, l1] st (n, up2 I a (ixn x) y, Lm, Rm) r := ev_iast cm_195 dX11_stands_189
theorem x195_190 : Ev L xs ρ 195 190 [some (.ref a), l1] st σ r ↔ Ev L xs ρ 195 191 [some (.ref a), l1] (.ref a :: st) σ r := ev_aload_n cm_195 dX11_stands_190 rfl rfl
theorem x195_191 : Ev L xs ρ 195 191 [l0, l1] (.ref a :: st) (n, I, Lm, Rm) r ↔ (a < n ∧ shp a = (0, 11)) ∧ Ev L xs ρ 195 194 [l0, l1] (rfv (Rm a 73) :: st) (n, I, Lm, Rm) r := ev_gtR cm_195 dX11_stands_191 rfl rfl
theorem x195_194 : Ev L xs ρ 195 194 [l0, some (.int x)] st σ r ↔ Ev L xs ρ 195 195 [l0, some (.int x)] (.int x :: st) σ r := ev_iload_n cm_195 dX11_stands_194 rfl rfl
theorem x195_195 : Ev L xs ρ 195 195 [l0, l1] st σ r ↔ Ev L xs ρ 195 196 [l0, l1] (.int (-1) :: st) σ r := ev_iconst cm_195 dX11_stands_195 (by decide)
theorem x195_196 : Ev L xs ρ 195 196 [l0, l1] (.int y :: .int x :: .ref a :: st) (n, I, Lm, Rm) r ↔ ((a < n ∧ (shp a).1 = 1) ∧ inb x (shp a).2) ∧ Ev L xs ρ 195 197 [l0, l1] st (n, up2 I a (ixn x) y, Lm, Rm) r := ev_iast cm_195 dX11_stands_196
theorem x195_197 : Ev L xs ρ 195 197 [l0, some (.int x)] st σ r ↔ Ev L xs ρ 195 200 [l0, some (.int (x + (1)))] st σ r := ev_iinc cm_195 dX11_stands_197 rfl (by decide)
theorem x195_200 : Ev L xs ρ 195 200 [l0, l1] st σ r ↔ Ev L xs ρ 195 116 [l0, l1] st σ r := ev_goto cm_195 dX11_stands_200 (by decide)
theorem x195_203 : Ev L xs ρ 195 203 [some (.ref a), l1] st σ r ↔ Ev L xs ρ 195 204 [some (.ref a), l1] (.ref a :: st) σ r := ev_aload_n cm_195 dX11_stands_203 rfl rfl
theorem x195_204 : Ev L xs ρ 195 204 [some (.ref a), l1] st σ r ↔ Ev L xs ρ 195 205 [some (.ref a), l1] (.ref a :: st) σ r := ev_aload_n cm_195 dX11_stands_204 rfl rfl
theorem x195_205 : Ev L xs ρ 195 205 [l0, l1] (.ref a :: st) (n, I, Lm, Rm) r ↔ (a < n ∧ shp a = (0, 11)) ∧ Ev L xs ρ 195 208 [l0, l1] (.int (I a 50) :: st) (n, I, Lm, Rm) r := ev_gtI cm_195 dX11_stands_205 rfl rfl
theorem x195_208 : Ev L xs ρ 195 208 [l0, l1] (.int x :: .ref a :: st) (n, I, Lm, Rm) r ↔ (a < n ∧ shp a = (0, 11)) ∧ Ev L xs ρ 195 211 [l0, l1] st (n, up2 I a 75 x, Lm, Rm) r := ev_ptI cm_195 dX11_stands_208 rfl rfl (Or.inl rfl)
theorem x195_211 : Ev L xs ρ 195 211 [l0, l1] st σ r ↔ Ev L xs ρ 195 212 [l0, l1] (.int (0) :: st) σ r := ev_iconst cm_195 dX11_stands_211 (by decide)
theorem x195_212 : Ev L xs ρ 195 212 [l0, l1] (.int x :: st) σ r ↔ Ev L xs ρ 195 213 [l0, some (.int x)] st σ r := ev_istore_n cm_195 dX11_stands_212 rfl (Nat.le_of_ble_eq_true rfl)
theorem x195_213 : Ev L xs ρ 195 213 [l0, some (.int x)] st σ r ↔ Ev L xs ρ 195 214 [l0, some (.int x)] (.int x :: st) σ r := ev_iload_n cm_195 dX11_stands_213 rfl rfl
theorem x195_214 : Ev L xs ρ 195 214 [some (.ref a), l1] st σ r ↔ Ev L xs ρ 195 215 [some (.ref a), l1] (.ref a :: st) σ r := ev_aload_n cm_195 dX11_stands_214 rfl rfl
theorem x195_215 : Ev L xs ρ 195 215 [l0, l1] (.ref a :: st) (n, I, Lm, Rm) r ↔ (a < n ∧ shp a = (0, 11)) ∧ Ev L xs ρ 195 218 [l0, l1] (.int (I a 75) :: st) (n, I, Lm, Rm) r := ev_gtI cm_195 dX11_stands_215 rfl rfl
theorem x195_218 : Ev L xs ρ 195 218 [l0, l1] (.int y :: .int x :: st) σ r ↔ if y ≤ x then Ev L xs ρ 195 239 [l0, l1] st σ r else Ev L xs ρ 195 221 [l0, l1] st σ r := ev_icge cm_195 dX11_stands_218 (by decide)
theorem x195_221 : Ev L xs ρ 195 221 [some (.ref a), l1] st σ r ↔ Ev L xs ρ 195 222 [some (.ref a), l1] (.ref a :: st) σ r := ev_aload_n cm_195 dX11_stands_221 rfl rfl
theorem x195_222 : Ev L xs ρ 195 222 [l0, l1] (.ref a :: st) (n, I, Lm, Rm) r ↔ (a < n ∧ shp a = (0, 11)) ∧ Ev L xs ρ 195 225 [l0, l1] (rfv (Rm a 74) :: st) (n, I, Lm, Rm) r := ev_gtR cm_195 dX11_stands_222 rfl rfl
theorem x195_225 : Ev L xs ρ 195 225 [l0, some (.int x)] st σ r ↔ Ev L xs ρ 195 226 [l0, some (.int x)] (.int x :: st) σ r := ev_iload_n cm_195 dX11_stands_225 rfl rfl
theorem x195_226 : Ev L xs ρ 195 226 [some (.ref a), l1] st σ r ↔ Ev L xs ρ 195 227 [some (.ref a), l1] (.ref a :: st) σ r := ev_aload_n cm_195 dX11_stands_226 rfl rfl
theorem x195_227 : Ev L xs ρ 195 227 [l0, l1] (.ref a :: st) (n, I, Lm, Rm) r ↔ (a < n ∧ shp a = (0, 11)) ∧ Ev L xs ρ 195 230 [l0, l1] (rfv (Rm a 51) :: st) (n, I, Lm, Rm) r := ev_gtR cm_195 dX11_stands_227 rfl rfl
theorem x195_230 : Ev L xs ρ 195 230 [l0, some (.int x)] st σ r ↔ Ev L xs ρ 195 231 [l0, some (.int x)] (.int x :: st) σ r := ev_iload_n cm_195 dX11_stands_230 rfl rfl
theorem x195_231 : Ev L xs ρ 195 231 [l0, l1] (.int x :: .ref a :: st) (n, I, Lm, Rm) r ↔ ((a < n ∧ (shp a).1 = 1) ∧ inb x (shp a).2) ∧ Ev L xs ρ 195 232 [l0, l1] (.int (I a (ixn x)) :: st) (n, I, Lm, Rm) r := ev_iald cm_195 dX11_stands_231 (by decide)
theorem x195_232 : Ev L xs ρ 195 232 [l0, l1] (.int y :: .int x :: .ref a :: st) (n, I, Lm, Rm) r ↔ ((a < n ∧ (shp a).1 = 1) ∧ inb x (shp a).2) ∧ Ev L xs ρ 195 233 [l0, l1] st (n, up2 I a (ixn x) y, Lm, Rm) r := ev_iast cm_195 dX11_stands_232
theorem x195_233 : Ev L xs ρ 195 233 [l0, some (.int x)] st σ r ↔ Ev L xs ρ 195 236 [l0, some (.int (x + (1)))] st σ r := ev_iinc cm_195 dX11_stands_233 rfl (by decide)
theorem x195_236 : Ev L xs ρ 195 236 [l0, l1] st σ r ↔ Ev L xs ρ 195 213 [l0, l1] st σ r := ev_goto cm_195 dX11_stands_236 (by decide)
theorem x195_239 : Ev L xs ρ 195 239 [some (.ref a), l1] st σ r ↔ Ev L xs ρ 195 240 [some (.ref a), l1] (.ref a :: st) σ r := ev_aload_n cm_195 dX11_stands_239 rfl rfl
theorem x195_240 : Ev L xs ρ 195 240 [some (.ref a), l1] st σ r ↔ Ev L xs ρ 195 241 [some (.ref a), l1] (.ref a :: st) σ r := ev_aload_n cm_195 dX11_stands_240 rfl rfl
theorem x195_241 : Ev L xs ρ 195 241 [l0, l1] (.ref a :: st) (n, I, Lm, Rm) r ↔ (a < n ∧ shp a = (0, 11)) ∧ Ev L xs ρ 195 244 [l0, l1] (.int (I a 54) :: st) (n, I, Lm, Rm) r := ev_gtI cm_195 dX11_stands_241 rfl rfl
theorem x195_244 : Ev L xs ρ 195 244 [l0, l1] (.int x :: .ref a :: st) (n, I, Lm, Rm) r ↔ (a < n ∧ shp a = (0, 11)) ∧ Ev L xs ρ 195 247 [l0, l1] st (n, up2 I a 52 x, Lm, Rm) r := ev_ptI cm_195 dX11_stands_244 rfl rfl (Or.inl rfl)
theorem x195_247 : Ev L xs ρ 195 247 [some (.ref a), l1] st σ r ↔ Ev L xs ρ 195 248 [some (.ref a), l1] (.ref a :: st) σ r := ev_aload_n cm_195 dX11_stands_247 rfl rfl
theorem x195_248 : Ev L xs ρ 195 248 [l0, l1] (.ref a :: st) (n, I, Lm, Rm) r ↔ (a < n ∧ shp a = (0, 11)) ∧ Ev L xs ρ 195 251 [l0, l1] (rfv (Rm a 60) :: st) (n, I, Lm, Rm) r := ev_gtR cm_195 dX11_stands_248 rfl rfl
theorem x195_251 : Ev L xs ρ 195 251 [l0, l1] st σ r ↔ Ev L xs ρ 195 252 [l0, l1] (.int (0) :: st) σ r := ev_iconst cm_195 dX11_stands_251 (by decide)
theorem x195_252 : Ev L xs ρ 195 252 [some (.ref a), l1] st σ r ↔ Ev L xs ρ 195 253 [some (.ref a), l1] (.ref a :: st) σ r := ev_aload_n cm_195 dX11_stands_252 rfl rfl
theorem x195_253 : Ev L xs ρ 195 253 [l0, l1] (.ref a :: st) (n, I, Lm, Rm) r ↔ (a < n ∧ shp a = (0, 11)) ∧ Ev L xs ρ 195 256 [l0, l1] (rfv (Rm a 60) :: st) (n, I, Lm, Rm) r := ev_gtR cm_195 dX11_stands_253 rfl rfl
theorem x195_256 : Ev L xs ρ 195 256 [l0, l1] st σ r ↔ Ev L xs ρ 195 257 [l0, l1] (.int (1) :: st) σ r := ev_iconst cm_195 dX11_stands_256 (by decide)
theorem x195_257 : Ev L xs ρ 195 257 [l0, l1] (.int x :: .ref a :: st) (n, I, Lm, Rm) r ↔ ((a < n ∧ (shp a).1 = 1) ∧ inb x (shp a).2) ∧ Ev L xs ρ 195 258 [l0, l1] (.int (I a (ixn x)) :: st) (n, I, Lm, Rm) r := ev_iald cm_195 dX11_stands_257 (by decide)
theorem x195_258 : Ev L xs ρ 195 258 [l0, l1] (.int y :: .int x :: .ref a :: st) (n, I, Lm, Rm) r ↔ ((a < n ∧ (shp a).1 = 1) ∧ inb x (shp a).2) ∧ Ev L xs ρ 195 259 [l0, l1] st (n, up2 I a (ixn x) y, Lm, Rm) r := ev_iast cm_195 dX11_stands_258
theorem x195_259 : Ev L xs ρ 195 259 [l0, l1] st σ r ↔ Ev L xs ρ 195 260 [l0, l1] (.int (0) :: st) σ r := ev_iconst cm_195 dX11_stands_259 (by decide)
theorem x195_260 : Ev L xs ρ 195 260 [l0, l1] (.int x :: st) σ r ↔ Ev L xs ρ 195 261 [l0, some (.int x)] st σ r := ev_istore_n cm_195 dX11_stands_260 rfl (Nat.le_of_ble_eq_true rfl)
theorem x195_261 : Ev L xs ρ 195 261 [l0, some (.int x)] st σ r ↔ Ev L xs ρ 195 262 [l0, some (.int x)] (.int x :: st) σ r := ev_iload_n cm_195 dX11_stands_261 rfl rfl
theorem x195_262 : Ev L xs ρ 195 262 [some (.ref a), l1] st σ r ↔ Ev L xs ρ 195 263 [some (.ref a), l1] (.ref a :: st) σ r := ev_aload_n cm_195 dX11_stands_262 rfl rfl
theorem x195_263 : Ev L xs ρ 195 263 [l0, l1] (.ref a :: st) (n, I, Lm, Rm) r ↔ (a < n ∧ shp a = (0, 11)) ∧ Ev L xs ρ 195 266 [l0, l1] (rfv (Rm a 60) :: st) (n, I, Lm, Rm) r := ev_gtR cm_195 dX11_stands_263 rfl rfl
theorem x195_266 : Ev L xs ρ 195 266 [l0, l1] st σ r ↔ Ev L xs ρ 195 267 [l0, l1] (.int (0) :: st) σ r := ev_iconst cm_195 dX11_stands_266 (by decide)
theorem x195_267 : Ev L xs ρ 195 267 [l0, l1] (.int x :: .ref a :: st) (n, I, Lm, Rm) r ↔ ((a < n ∧ (shp a).1 = 1) ∧ inb x (shp a).2) ∧ Ev L xs ρ 195 268 [l0, l1] (.int (I a (ixn x)) :: st) (n, I, Lm, Rm) r := ev_iald cm_195 dX11_stands_267 (by decide)
theorem x195_268 : Ev L xs ρ 195 268 [l0, l1] (.int y :: .int x :: st) σ r ↔ if y ≤ x then Ev L xs ρ 195 337 [l0, l1] st σ r else Ev L xs ρ 195 271 [l0, l1] st σ r := ev_icge cm_195 dX11_stands_268 (by decide)
theorem x195_271 : Ev L xs ρ 195 271 [some (.ref a), l1] st σ r ↔ Ev L xs ρ 195 272 [some (.ref a), l1] (.ref a :: st) σ r := ev_aload_n cm_195 dX11_stands_271 rfl rfl
theorem x195_272 : Ev L xs ρ 195 272 [l0, l1] (.ref a :: st) (n, I, Lm, Rm) r ↔ (a < n ∧ shp a = (0, 11)) ∧ Ev L xs ρ 195 275 [l0, l1] (rfv (Rm a 61) :: st) (n, I, Lm, Rm) r := ev_gtR cm_195 dX11_stands_272 rfl rfl
theorem x195_275 : Ev L xs ρ 195 275 [l0, some (.int x)] st σ r ↔ Ev L xs ρ 195 276 [l0, some (.int x)] (.int x :: st) σ r := ev_iload_n cm_195 dX11_stands_275 rfl rfl
theorem x195_276 : Ev L xs ρ 195 276 [some (.ref a), l1] st σ r ↔ Ev L xs ρ 195 277 [some (.ref a), l1] (.ref a :: st) σ r := ev_aload_n cm_195 dX11_stands_276 rfl rfl
theorem x195_277 : Ev L xs ρ 195 277 [l0, l1] (.ref a :: st) (n, I, Lm, Rm) r ↔ (a < n ∧ shp a = (0, 11)) ∧ Ev L xs ρ 195 280 [l0, l1] (rfv (Rm a 61) :: st) (n, I, Lm, Rm) r := ev_gtR cm_195 dX11_stands_277 rfl rfl
theorem x195_280 : Ev L xs ρ 195 280 [l0, l1] st σ r ↔ Ev L xs ρ 195 282 [l0, l1] (.int (12) :: st) σ r := ev_bipush cm_195 dX11_stands_280 (by decide)
theorem x195_282 : Ev L xs ρ 195 282 [l0, some (.int x)] st σ r ↔ Ev L xs ρ 195 283 [l0, some (.int x)] (.int x :: st) σ r := ev_iload_n cm_195 dX11_stands_282 rfl rfl
theorem x195_283 : Ev L xs ρ 195 283 [l0, l1] (.int y :: .int x :: st) σ r ↔ Ev L xs ρ 195 284 [l0, l1] (.int (x + y) :: st) σ r := ev_nx (ev_ex cm_195 dX11_stands_283 rfl rfl)
theorem x195_284 : Ev L xs ρ 195 284 [l0, l1] (.int x :: .ref a :: st) (n, I, Lm, Rm) r ↔ ((a < n ∧ (shp a).1 = 1) ∧ inb x (shp a).2) ∧ Ev L xs ρ 195 285 [l0, l1] (.int (I a (ixn x)) :: st) (n, I, Lm, Rm) r := ev_iald cm_195 dX11_stands_284 (by decide)
theorem x195_285 : Ev L xs ρ 195 285 [l0, l1] (.int y :: .int x :: .ref a :: st) (n, I, Lm, Rm) r ↔ ((a < n ∧ (shp a).1 = 1) ∧ inb x (shp a).2) ∧ Ev L xs ρ 195 286 [l0, l1] st (n, up2 I a (ixn x) y, Lm, Rm) r := ev_iast cm_195 dX11_stands_285
theorem x195_286 : Ev L xs ρ 195 286 [some (.ref a), l1] st σ r ↔ Ev L xs ρ 195 287 [some (.ref a), l1] (.ref a :: st) σ r := ev_aload_n cm_195 dX11_stands_286 rfl rfl
theorem x195_287 : Ev L xs ρ 195 287 [l0, l1] (.ref a :: st) (n, I, Lm, Rm) r ↔ (a < n ∧ shp a = (0, 11)) ∧ Ev L xs ρ 195 290 [l0, l1] (rfv (Rm a 62) :: st) (n, I, Lm, Rm) r := ev_gtR cm_195 dX11_stands_287 rfl rfl
theorem x195_290 : Ev L xs ρ 195 290 [l0, some (.int x)] st σ r ↔ Ev L xs ρ 195 291 [l0, some (.int x)] (.int x :: st) σ r := ev_iload_n cm_195 dX11_stands_290 rfl rfl
theorem x195_291 : Ev L xs ρ 195 291 [some (.ref a), l1] st σ r ↔ Ev L xs ρ 195 292 [some (.ref a), l1] (.ref a :: st) σ r := ev_aload_n cm_195 dX11_stands_291 rfl rfl
theorem x195_292 : Ev L xs ρ 195 292 [l0, l1] (.ref a :: st) (n, I, Lm, Rm) r ↔ (a < n ∧ shp a = (0, 11)) ∧ Ev L xs ρ 195 295 [l0, l1] (rfv (Rm a 62) :: st) (n, I, Lm, Rm) r := ev_gtR cm_195 dX11_stands_292 rfl rfl
theorem x195_295 : Ev L xs ρ 195 295 [l0, l1] st σ r ↔ Ev L xs ρ 195 297 [l0, l1] (.int (12) :: st) σ r := ev_bipush cm_195 dX11_stands_295 (by decide)
theorem x195_297 : Ev L xs ρ 195 297 [l0, some (.int x)] st σ r ↔ Ev L xs ρ 195 298 [l0, some (.int x)] (.int x :: st) σ r := ev_iload_n cm_195 dX11_stands_297 rfl rfl
theorem x195_298 : Ev L xs ρ 195 298 [l0, l1] (.int y :: .int x :: st) σ r ↔ Ev L xs ρ 195 299 [l0, l1] (.int (x + y) :: st) σ r := ev_nx (ev_ex cm_195 dX11_stands_298 rfl rfl)
theorem x195_299 : Ev L xs ρ 195 299 [l0, l1] (.int x :: .ref a :: st) (n, I, Lm, Rm) r ↔ ((a < n ∧ (shp a).1 = 1) ∧ inb x (shp a).2) ∧ Ev L xs ρ 195 300 [l0, l1] (.int (I a (ixn x)) :: st) (n, I, Lm, Rm) r := ev_iald cm_195 dX11_stands_299 (by decide)
theorem x195_300 : Ev L xs ρ 195 300 [l0, l1] (.int y :: .int x :: .ref a :: st) (n, I, Lm, Rm) r ↔ ((a < n ∧ (shp a).1 = 1) ∧ inb x (shp a).2) ∧ Ev L xs ρ 195 301 [l0, l1] st (n, up2 I a (ixn x) y, Lm, Rm) r := ev_iast cm_195 dX11_stands_300
theorem x195_301 : Ev L xs ρ 195 301 [some (.ref a), l1] st σ r ↔ Ev L xs ρ 195 302 [some (.ref a), l1] (.ref a :: st) σ r := ev_aload_n cm_195 dX11_stands_301 rfl rfl
theorem x195_302 : Ev L xs ρ 195 302 [l0, l1] (.ref a :: st) (n, I, Lm, Rm) r ↔ (a < n ∧ shp a = (0, 11)) ∧ Ev L xs ρ 195 305 [l0, l1] (rfv (Rm a 63) :: st) (n, I, Lm, Rm) r := ev_gtR cm_195 dX11_stands_302 rfl rfl
theorem x195_305 : Ev L xs ρ 195 305 [l0, some (.int x)] st σ r ↔ Ev L xs ρ 195 306 [l0, some (.int x)] (.int x :: st) σ r := ev_iload_n cm_195 dX11_stands_305 rfl rfl
theorem x195_306 : Ev L xs ρ 195 306 [some (.ref a), l1] st σ r ↔ Ev L xs ρ 195 307 [some (.ref a), l1] (.ref a :: st) σ r := ev_aload_n cm_195 dX11_stands_306 rfl rfl
theorem x195_307 : Ev L xs ρ 195 307 [l0, l1] (.ref a :: st) (n, I, Lm, Rm) r ↔ (a < n ∧ shp a = (0, 11)) ∧ Ev L xs ρ 195 310 [l0, l1] (rfv (Rm a 63) :: st) (n, I, Lm, Rm) r := ev_gtR cm_195 dX11_stands_307 rfl rfl
theorem x195_310 : Ev L xs ρ 195 310 [l0, l1] st σ r ↔ Ev L xs ρ 195 312 [l0, l1] (.int (12) :: st) σ r := ev_bipush cm_195 dX11_stands_310 (by decide)
theorem x195_312 : Ev L xs ρ 195 312 [l0, some (.int x)] st σ r ↔ Ev L xs ρ 195 313 [l0, some (.int x)] (.int x :: st) σ r := ev_iload_n cm_195 dX11_stands_312 rfl rfl
theorem x195_313 : Ev L xs ρ 195 313 [l0, l1] (.int y :: .int x :: st) σ r ↔ Ev L xs ρ 195 314 [l0, l1] (.int (x + y) :: st) σ r := ev_nx (ev_ex cm_195 dX11_stands_313 rfl rfl)
theorem x195_314 : Ev L xs ρ 195 314 [l0, l1] (.int x :: .ref a :: st) (n, I, Lm, Rm) r ↔ ((a < n ∧ (shp a).1 = 1) ∧ inb x (shp a).2) ∧ Ev L xs ρ 195 315 [l0, l1] (.int (I a (ixn x)) :: st) (n, I, Lm, Rm) r := ev_iald cm_195 dX11_stands_314 (by decide)
theorem x195_315 : Ev L xs ρ 195 315 [l0, l1] (.int y :: .int x :: .ref a :: st) (n, I, Lm, Rm) r ↔ ((a < n ∧ (shp a).1 = 1) ∧ inb x (shp a).2) ∧ Ev L xs ρ 195 316 [l0, l1] st (n, up2 I a (ixn x) y, Lm, Rm) r := ev_iast cm_195 dX11_stands_315
theorem x195_316 : Ev L xs ρ 195 316 [some (.ref a), l1] st σ r ↔ Ev L xs ρ 195 317 [some (.ref a), l1] (.ref a :: st) σ r := ev_aload_n cm_195 dX11_stands_316 rfl rfl
theorem x195_317 : Ev L xs ρ 195 317 [l0, l1] (.ref a :: st) (n, I, Lm, Rm) r ↔ (a < n ∧ shp a = (0, 11)) ∧ Ev L xs ρ 195 320 [l0, l1] (rfv (Rm a 64) :: st) (n, I, Lm, Rm) r := ev_gtR cm_195 dX11_stands_317 rfl rfl
theorem x195_320 : Ev L xs ρ 195 320 [l0, some (.int x)] st σ r ↔ Ev L xs ρ 195 321 [l0, some (.int x)] (.int x :: st) σ r := ev_iload_n cm_195 dX11_stands_320 rfl rfl
theorem x195_321 : Ev L xs ρ 195 321 [some (.ref a), l1] st σ r ↔ Ev L xs ρ 195 322 [some (.ref a), l1] (.ref a :: st) σ r := ev_aload_n cm_195 dX11_stands_321 rfl rfl
theorem x195_322 : Ev L xs ρ 195 322 [l0, l1] (.ref a :: st) (n, I, Lm, Rm) r ↔ (a < n ∧ shp a = (0, 11)) ∧ Ev L xs ρ 195 325 [l0, l1] (rfv (Rm a 64) :: st) (n, I, Lm, Rm) r := ev_gtR cm_195 dX11_stands_322 rfl rfl
theorem x195_325 : Ev L xs ρ 195 325 [l0, l1] st σ r ↔ Ev L xs ρ 195 327 [l0, l1] (.int (12) :: st) σ r := ev_bipush cm_195 dX11_stands_325 (by decide)
theorem x195_327 : Ev L xs ρ 195 327 [l0, some (.int x)] st σ r ↔ Ev L xs ρ 195 328 [l0, some (.int x)] (.int x :: st) σ r := ev_iload_n cm_195 dX11_stands_327 rfl rfl
theorem x195_328 : Ev L xs ρ 195 328 [l0, l1] (.int y :: .int x :: st) σ r ↔ Ev L xs ρ 195 329 [l0, l1] (.int (x + y) :: st) σ r := ev_nx (ev_ex cm_195 dX11_stands_328 rfl rfl)
theorem x195_329 : Ev L xs ρ 195 329 [l0, l1] (.int x :: .ref a :: st) (n, I, Lm, Rm) r ↔ ((a < n ∧ (shp a).1 = 1) ∧ inb x (shp a).2) ∧ Ev L xs ρ 195 330 [l0, l1] (.int (I a (ixn x)) :: st) (n, I, Lm, Rm) r := ev_iald cm_195 dX11_stands_329 (by decide)
theorem x195_330 : Ev L xs ρ 195 330 [l0, l1] (.int y :: .int x :: .ref a :: st) (n, I, Lm, Rm) r ↔ ((a < n ∧ (shp a).1 = 1) ∧ inb x (shp a).2) ∧ Ev L xs ρ 195 331 [l0, l1] st (n, up2 I a (ixn x) y, Lm, Rm) r := ev_iast cm_195 dX11_stands_330
theorem x195_331 : Ev L xs ρ 195 331 [l0, some (.int x)] st σ r ↔ Ev L xs ρ 195 334 [l0, some (.int (x + (1)))] st σ r := ev_iinc cm_195 dX11_stands_331 rfl (by decide)
theorem x195_334 : Ev L xs ρ 195 334 [l0, l1] st σ r ↔ Ev L xs ρ 195 261 [l0, l1] st σ r := ev_goto cm_195 dX11_stands_334 (by decide)
theorem x195_337 : Ev L xs ρ 195 337 [l0, l1] st σ r ↔ Ev L xs ρ 195 338 [l0, l1] (.int (0) :: st) σ r := ev_iconst cm_195 dX11_stands_337 (by decide)
theorem x195_338 : Ev L xs ρ 195 338 [l0, l1] (.int x :: st) σ r ↔ Ev L xs ρ 195 339 [l0, some (.int x)] st σ r := ev_istore_n cm_195 dX11_stands_338 rfl (Nat.le_of_ble_eq_true rfl)
theorem x195_339 : Ev L xs ρ 195 339 [l0, some (.int x)] st σ r ↔ Ev L xs ρ 195 340 [l0, some (.int x)] (.int x :: st) σ r := ev_iload_n cm_195 dX11_stands_339 rfl rfl
theorem x195_340 : Ev L xs ρ 195 340 [some (.ref a), l1] st σ r ↔ Ev L xs ρ 195 341 [some (.ref a), l1] (.ref a :: st) σ r := ev_aload_n cm_195 dX11_stands_340 rfl rfl
theorem x195_341 : Ev L xs ρ 195 341 [l0, l1] (.ref a :: st) (n, I, Lm, Rm) r ↔ (a < n ∧ shp a = (0, 11)) ∧ Ev L xs ρ 195 344 [l0, l1] (.int (I a 56) :: st) (n, I, Lm, Rm) r := ev_gtI cm_195 dX11_stands_341 rfl rfl
theorem x195_344 : Ev L xs ρ 195 344 [l0, l1] (.int y :: .int x :: st) σ r ↔ if y ≤ x then Ev L xs ρ 195 369 [l0, l1] st σ r else Ev L xs ρ 195 347 [l0, l1] st σ r := ev_icge cm_195 dX11_stands_344 (by decide)
theorem x195_347 : Ev L xs ρ 195 347 [some (.ref a), l1] st σ r ↔ Ev L xs ρ 195 348 [some (.ref a), l1] (.ref a :: st) σ r := ev_aload_n cm_195 dX11_stands_347 rfl rfl
theorem x195_348 : Ev L xs ρ 195 348 [l0, l1] (.ref a :: st) (n, I, Lm, Rm) r ↔ (a < n ∧ shp a = (0, 11)) ∧ Ev L xs ρ 195 351 [l0, l1] (rfv (Rm a 55) :: st) (n, I, Lm, Rm) r := ev_gtR cm_195 dX11_stands_348 rfl rfl
theorem x195_351 : Ev L xs ρ 195 351 [l0, some (.int x)] st σ r ↔ Ev L xs ρ 195 352 [l0, some (.int x)] (.int x :: st) σ r := ev_iload_n cm_195 dX11_stands_351 rfl rfl
theorem x195_352 : Ev L xs ρ 195 352 [some (.ref a), l1] st σ r ↔ Ev L xs ρ 195 353 [some (.ref a), l1] (.ref a :: st) σ r := ev_aload_n cm_195 dX11_stands_352 rfl rfl
theorem x195_353 : Ev L xs ρ 195 353 [l0, l1] (.ref a :: st) (n, I, Lm, Rm) r ↔ (a < n ∧ shp a = (0, 11)) ∧ Ev L xs ρ 195 356 [l0, l1] (rfv (Rm a 55) :: st) (n, I, Lm, Rm) r := ev_gtR cm_195 dX11_stands_353 rfl rfl
theorem x195_356 : Ev L xs ρ 195 356 [l0, l1] st σ r ↔ Ev L xs ρ 195 359 [l0, l1] (.int (1600) :: st) σ r := ev_sipush cm_195 dX11_stands_356 (by decide)
theorem x195_359 : Ev L xs ρ 195 359 [l0, some (.int x)] st σ r ↔ Ev L xs ρ 195 360 [l0, some (.int x)] (.int x :: st) σ r := ev_iload_n cm_195 dX11_stands_359 rfl rfl
theorem x195_360 : Ev L xs ρ 195 360 [l0, l1] (.int y :: .int x :: st) σ r ↔ Ev L xs ρ 195 361 [l0, l1] (.int (x + y) :: st) σ r := ev_nx (ev_ex cm_195 dX11_stands_360 rfl rfl)
theorem x195_361 : Ev L xs ρ 195 361 [l0, l1] (.int x :: .ref a :: st) (n, I, Lm, Rm) r ↔ ((a < n ∧ (shp a).1 = 1) ∧ inb x (shp a).2) ∧ Ev L xs ρ 195 362 [l0, l1] (.int (I a (ixn x)) :: st) (n, I, Lm, Rm) r := ev_iald cm_195 dX11_stands_361 (by decide)
theorem x195_362 : Ev L xs ρ 195 362 [l0, l1] (.int y :: .int x :: .ref a :: st) (n, I, Lm, Rm) r ↔ ((a < n ∧ (shp a).1 = 1) ∧ inb x (shp a).2) ∧ Ev L xs ρ 195 363 [l0, l1] st (n, up2 I a (ixn x) y, Lm, Rm) r := ev_iast cm_195 dX11_stands_362
theorem x195_363 : Ev L xs ρ 195 363 [l0, some (.int x)] st σ r ↔ Ev L xs ρ 195 366 [l0, some (.int (x + (1)))] st σ r := ev_iinc cm_195 dX11_stands_363 rfl (by decide)
theorem x195_366 : Ev L xs ρ 195 366 [l0, l1] st σ r ↔ Ev L xs ρ 195 339 [l0, l1] st σ r := ev_goto cm_195 dX11_stands_366 (by decide)
theorem x195_369 : Ev L xs ρ 195 369 [some (.ref a), l1] st σ r ↔ Ev L xs ρ 195 370 [some (.ref a), l1] (.ref a :: st) σ r := ev_aload_n cm_195 dX11_stands_369 rfl rfl
theorem x195_370 : Ev L xs ρ 195 370 [l0, l1] st σ r ↔ Ev L xs ρ 195 371 [l0, l1] (.int (0) :: st) σ r := ev_iconst cm_195 dX11_stands_370 (by decide)
theorem x195_371 : Ev L xs ρ 195 371 [l0, l1] (.int x :: .ref a :: st) (n, I, Lm, Rm) r ↔ (a < n ∧ shp a = (0, 11)) ∧ Ev L xs ρ 195 374 [l0, l1] st (n, up2 I a 76 x, Lm, Rm) r := ev_ptI cm_195 dX11_stands_371 rfl rfl (Or.inl rfl)
theorem x195_374 : Ev L xs ρ 195 374 [some (.ref a), l1] st σ r ↔ Ev L xs ρ 195 375 [some (.ref a), l1] (.ref a :: st) σ r := ev_aload_n cm_195 dX11_stands_374 rfl rfl
theorem x195_375 : Ev L xs ρ 195 375 [l0, l1] st σ r ↔ Ev L xs ρ 195 376 [l0, l1] (.int (0) :: st) σ r := ev_iconst cm_195 dX11_stands_375 (by decide)
theorem x195_376 : Ev L xs ρ 195 376 [l0, l1] (.int x :: .ref a :: st) (n, I, Lm, Rm) r ↔ (a < n ∧ shp a = (0, 11)) ∧ Ev L xs ρ 195 379 [l0, l1] st (n, up2 I a 77 x, Lm, Rm) r := ev_ptI cm_195 dX11_stands_376 rfl rfl (Or.inl rfl)
theorem x195_379 : Ev L xs ρ 195 379 [some (.ref a), l1] st σ r ↔ Ev L xs ρ 195 380 [some (.ref a), l1] (.ref a :: st) σ r := ev_aload_n cm_195 dX11_stands_379 rfl rfl
theorem x195_380 : Ev L xs ρ 195 380 [l0, l1] st σ r ↔ Ev L xs ρ 195 381 [l0, l1] (.int (0) :: st) σ r := ev_iconst cm_195 dX11_stands_380 (by decide)
theorem x195_381 : Ev L xs ρ 195 381 [l0, l1] (.int x :: .ref a :: st) (n, I, Lm, Rm) r ↔ (a < n ∧ shp a = (0, 11)) ∧ Ev L xs ρ 195 384 [l0, l1] st (n, up2 I a 78 x, Lm, Rm) r := ev_ptI cm_195 dX11_stands_381 rfl rfl (Or.inl rfl)
theorem x195_384 : Ev L xs ρ 195 384 [some (.ref a), l1] st σ r ↔ Ev L xs ρ 195 385 [some (.ref a), l1] (.ref a :: st) σ r := ev_aload_n cm_195 dX11_stands_384 rfl rfl
theorem x195_385 : Ev L xs ρ 195 385 [some (.ref a), l1] st σ r ↔ Ev L xs ρ 195 386 [some (.ref a), l1] (.ref a :: st) σ r := ev_aload_n cm_195 dX11_stands_385 rfl rfl
theorem x195_386 : Ev L xs ρ 195 386 [l0, l1] (.ref a :: st) (n, I, Lm, Rm) r ↔ (a < n ∧ shp a = (0, 11)) ∧ Ev L xs ρ 195 389 [l0, l1] (rfv (Rm a 44) :: st) (n, I, Lm, Rm) r := ev_gtR cm_195 dX11_stands_386 rfl rfl
theorem x195_389 : Ev L xs ρ 195 389 [l0, l1] st σ r ↔ Ev L xs ρ 195 390 [l0, l1] (.int (5) :: st) σ r := ev_iconst cm_195 dX11_stands_389 (by decide)
theorem x195_390 : Ev L xs ρ 195 390 [l0, l1] (.int x :: .ref a :: st) (n, I, Lm, Rm) r ↔ ((a < n ∧ (shp a).1 = 1) ∧ inb x (shp a).2) ∧ Ev L xs ρ 195 391 [l0, l1] (.int (I a (ixn x)) :: st) (n, I, Lm, Rm) r := ev_iald cm_195 dX11_stands_390 (by decide)
theorem x195_391 : Ev L xs ρ 195 391 [l0, l1] (.int x :: .ref a :: st) (n, I, Lm, Rm) r ↔ (a < n ∧ shp a = (0, 11)) ∧ Ev L xs ρ 195 394 [l0, l1] st (n, up2 I a 79 x, Lm, Rm) r := ev_ptI cm_195 dX11_stands_391 rfl rfl (Or.inl rfl)
theorem x195_394 : Ev L xs ρ 195 394 [l0, l1] [] σ r ↔ r = (none, σ) := ev_retv cm_195 dX11_stands_394 rfl
theorem cm_196 : mcd 196 = cX11_code := rfl
theorem em_196 : Em L xs 196 [.ref a, .int x] σ r ↔ Ev L xs 0 196 0 [some (.ref a), some (.int x)] [] σ r := Iff.rfl
theorem x196_0 : Ev L xs ρ 196 0 [some (.ref a), l1] st σ r ↔ Ev L xs ρ 196 1 [some (.ref a), l1] (.ref a :: st) σ r := ev_aload_n cm_196 dX11_code_0 rfl rfl
theorem x196_1 : Ev L xs ρ 196 1 [l0, l1] (.ref a :: st) (n, I, Lm, Rm) r ↔ (a < n ∧ shp a = (0, 11)) ∧ Ev L xs ρ 196 4 [l0, l1] (rfv (Rm a 55) :: st) (n, I, Lm, Rm) r := ev_gtR cm_196 dX11_code_1 rfl rfl
theorem x196_4 : Ev L xs ρ 196 4 [l0, l1] st σ r ↔ Ev L xs ρ 196 7 [l0, l1] (.int (1600) :: st) σ r := ev_sipush cm_196 dX11_code_4 (by decide)
theorem x196_7 : Ev L xs ρ 196 7 [some (.ref a), l1] st σ r ↔ Ev L xs ρ 196 8 [some (.ref a), l1] (.ref a :: st) σ r := ev_aload_n cm_196 dX11_code_7 rfl rfl
theorem x196_8 : Ev L xs ρ 196 8 [l0, l1] (.ref a :: st) (n, I, Lm, Rm) r ↔ (a < n ∧ shp a = (0, 11)) ∧ Ev L xs ρ 196 11 [l0, l1] (.int (I a 56) :: st) (n, I, Lm, Rm) r := ev_gtI cm_196 dX11_code_8 rfl rfl
theorem x196_11 : Ev L xs ρ 196 11 [l0, l1] (.int y :: .int x :: st) σ r ↔ Ev L xs ρ 196 12 [l0, l1] (.int (x + y) :: st) σ r := ev_nx (ev_ex cm_196 dX11_code_11 rfl rfl)
theorem x196_12 : Ev L xs ρ 196 12 [l0, some (.int x)] st σ r ↔ Ev L xs ρ 196 13 [l0, some (.int x)] (.int x :: st) σ r := ev_iload_n cm_196 dX11_code_12 rfl rfl
theorem x196_13 : Ev L xs ρ 196 13 [l0, l1] (.int y :: .int x :: .ref a :: st) (n, I, Lm, Rm) r ↔ ((a < n ∧ (shp a).1 = 1) ∧ inb x (shp a).2) ∧ Ev L xs ρ 196 14 [l0, l1] st (n, up2 I a (ixn x) y, Lm, Rm) r := ev_iast cm_196 dX11_code_13
theorem x196_14 : Ev L xs ρ 196 14 [some (.ref a), l1] st σ r ↔ Ev L xs ρ 196 15 [some (.ref a), l1] (.ref a :: st) σ r := ev_aload_n cm_196 dX11_code_14 rfl rfl
theorem x196_15 : Ev L xs ρ 196 15 [l0, l1] (.ref a :: st) σ r ↔ Ev L xs ρ 196 16 [l0, l1] (.ref a :: .ref a :: st) σ r := ev_nx (ev_ex cm_196 dX11_code_15 rfl rfl)
theorem x196_16 : Ev L xs ρ 196 16 [l0, l1] (.ref a :: st) (n, I, Lm, Rm) r ↔ (a < n ∧ shp a = (0, 11)) ∧ Ev L xs ρ 196 19 [l0, l1] (.int (I a 56) :: st) (n, I, Lm, Rm) r := ev_gtI cm_196 dX11_code_16 rfl rfl
theorem x196_19 : Ev L xs ρ 196 19 [l0, l1] st σ r ↔ Ev L xs ρ 196 20 [l0, l1] (.int (1) :: st) σ r := ev_iconst cm_196 dX11_code_19 (by decide)
theorem x196_20 : Ev L xs ρ 196 20 [l0, l1] (.int y :: .int x :: st) σ r ↔ Ev L xs ρ 196 21 [l0, l1] (.int (x + y) :: st) σ r := ev_nx (ev_ex cm_196 dX11_code_20 rfl rfl)
theorem x196_21 : Ev L xs ρ 196 21 [l0, l1] (.int x :: .ref a :: st) (n, I, Lm, Rm) r ↔ (a < n ∧ shp a = (0, 11)) ∧ Ev L xs ρ 196 24 [l0, l1] st (n, up2 I a 56 x, Lm, Rm) r := ev_ptI cm_196 dX11_code_21 rfl rfl (Or.inl rfl)
theorem x196_24 : Ev L xs ρ 196 24 [l0, l1] [] σ r ↔ r = (none, σ) := ev_retv cm_196 dX11_code_24 rfl
theorem cm_197 : mcd 197 = cX11_opens := rfl
theorem em_197 : Em L xs 197 [.ref a, .int x, .int y] σ r ↔ Ev L xs 1 197 0 [some (.ref a), some (.int x), some (.int y)] [] σ r := Iff.rfl
theorem x197_0 : Ev L xs ρ 197 0 [some (.ref a), l1, l2] st σ r ↔ Ev L xs ρ 197 1 [some (.ref a), l1, l2] (.ref a :: st) σ r := ev_aload_n cm_197 dX11_opens_0 rfl rfl
theorem x197_1 : Ev L xs ρ 197 1 [l0, l1, l2] (.ref a :: st) (n, I, Lm, Rm) r ↔ (a < n ∧ shp a = (0, 11)) ∧ Ev L xs ρ 197 4 [l0, l1, l2] (.int (I a 59) :: st) (n, I, Lm, Rm) r := ev_gtI cm_197 dX11_opens_1 rfl rfl
theorem x197_4 : Ev L xs ρ 197 4 [l0, l1, l2] st σ r ↔ Ev L xs ρ 197 6 [l0, l1, l2] (.int (6) :: st) σ r := ev_bipush cm_197 dX11_opens_4 (by decide)
theorem x197_6 : Ev L xs ρ 197 6 [l0, l1, l2] (.int y :: .int x :: st) σ r ↔ if x = y then Ev L xs ρ 197 9 [l0, l1, l2] st σ r else Ev L xs ρ 197 16 [l0, l1, l2] st σ r := ev_icne cm_197 dX11_opens_6 (by decide)
theorem x197_9 : Ev L xs ρ 197 9 [some (.ref a), l1, l2] st σ r ↔ Ev L xs ρ 197 10 [some (.ref a), l1, l2] (.ref a :: st) σ r := ev_aload_n cm_197 dX11_opens_9 rfl rfl
theorem x197_10 : Ev L xs ρ 197 10 [l0, l1, l2] st σ r ↔ Ev L xs ρ 197 11 [l0, l1, l2] (.int (4) :: st) σ r := ev_iconst cm_197 dX11_opens_10 (by decide)
theorem x197_11 : Ev L xs ρ 197 11 [l0, l1, some (.int x)] st σ r ↔ Ev L xs ρ 197 12 [l0, l1, some (.int x)] (.int x :: st) σ r := ev_iload_n cm_197 dX11_opens_11 rfl rfl
theorem x197_12 : Ev L xs 1 197 12 [l0, l1, l2] (.int y :: .int x :: .ref a :: []) (n, I, Lm, Rm) r ↔ (a < n ∧ shp a = (0, 11)) ∧ ∃ v n2 I2 L2 R2, Em L xs 170 [.ref a, .int x, .int y] (n, I, Lm, Rm) (v, n2, I2, L2, R2) ∧ Ev L xs 1 197 15 [l0, l1, l2] (v.toList ++ []) (n2, I2, L2, R2) r := ev_cV cm_197 [.int x, .int y] dX11_opens_12 rfl rfl rfl rfl (Nat.le_of_ble_eq_true rfl) (rka_lt rfl (by decide)) (Nat.le_of_ble_eq_true rfl)
theorem x197_15 : Ev L xs ρ 197 15 [l0, l1, l2] [] σ r ↔ r = (none, σ) := ev_retv cm_197 dX11_opens_15 rfl
theorem x197_16 : Ev L xs ρ 197 16 [some (.ref a), l1, l2] st σ r ↔ Ev L xs ρ 197 17 [some (.ref a), l1, l2] (.ref a :: st) σ r := ev_aload_n cm_197 dX11_opens_16 rfl rfl
theorem x197_17 : Ev L xs ρ 197 17 [l0, l1, l2] (.ref a :: st) σ r ↔ Ev L xs ρ 197 18 [l0, l1, l2] (.ref a :: .ref a :: st) σ r := ev_nx (ev_ex cm_197 dX11_opens_17 rfl rfl)
theorem x197_18 : Ev L xs ρ 197 18 [l0, l1, l2] (.ref a :: st) (n, I, Lm, Rm) r ↔ (a < n ∧ shp a = (0, 11)) ∧ Ev L xs ρ 197 21 [l0, l1, l2] (.int (I a 59) :: st) (n, I, Lm, Rm) r := ev_gtI cm_197 dX11_opens_18 rfl rfl
theorem x197_21 : Ev L xs ρ 197 21 [l0, l1, l2] st σ r ↔ Ev L xs ρ 197 22 [l0, l1, l2] (.int (1) :: st) σ r := ev_iconst cm_197 dX11_opens_21 (by decide)
theorem x197_22 : Ev L xs ρ 197 22 [l0, l1, l2] (.int y :: .int x :: st) σ r ↔ Ev L xs ρ 197 23 [l0, l1, l2] (.int (x + y) :: st) σ r := ev_nx (ev_ex cm_197 dX11_opens_22 rfl rfl)
theorem x197_23 : Ev L xs ρ 197 23 [l0, l1, l2] (.int x :: .ref a :: st) (n, I, Lm, Rm) r ↔ (a < n ∧ shp a = (0, 11)) ∧ Ev L xs ρ 197 26 [l0, l1, l2] st (n, up2 I a 59 x, Lm, Rm) r := ev_ptI cm_197 dX11_opens_23 rfl rfl (Or.inl rfl)
theorem x197_26 : Ev L xs ρ 197 26 [some (.ref a), l1, l2] st σ r ↔ Ev L xs ρ 197 27 [some (.ref a), l1, l2] (.ref a :: st) σ r := ev_aload_n cm_197 dX11_opens_26 rfl rfl
theorem x197_27 : Ev L xs ρ 197 27 [l0, l1, l2] (.ref a :: st) (n, I, Lm, Rm) r ↔ (a < n ∧ shp a = (0, 11)) ∧ Ev L xs ρ 197 30 [l0, l1, l2] (rfv (Rm a 57) :: st) (n, I, Lm, Rm) r := ev_gtR cm_197 dX11_opens_27 rfl rfl
theorem x197_30 : Ev L xs ρ 197 30 [some (.ref a), l1, l2] st σ r ↔ Ev L xs ρ 197 31 [some (.ref a), l1, l2] (.ref a :: st) σ r := ev_aload_n cm_197 dX11_opens_30 rfl rfl
theorem x197_31 : Ev L xs ρ 197 31 [l0, l1, l2] (.ref a :: st) (n, I, Lm, Rm) r ↔ (a < n ∧ shp a = (0, 11)) ∧ Ev L xs ρ 197 34 [l0, l1, l2] (.int (I a 58) :: st) (n, I, Lm, Rm) r := ev_gtI cm_197 dX11_opens_31 rfl rfl
theorem x197_34 : Ev L xs ρ 197 34 [l0, some (.int x), l2] st σ r ↔ Ev L xs ρ 197 35 [l0, some (.int x), l2] (.int x :: st) σ r := ev_iload_n cm_197 dX11_opens_34 rfl rfl
theorem x197_35 : Ev L xs ρ 197 35 [l0, l1, l2] (.int y :: .int x :: .ref a :: st) (n, I, Lm, Rm) r ↔ ((a < n ∧ (shp a).1 = 1) ∧ inb x (shp a).2) ∧ Ev L xs ρ 197 36 [l0, l1, l2] st (n, up2 I a (ixn x) y, Lm, Rm) r := ev_iast cm_197 dX11_opens_35
theorem x197_36 : Ev L xs ρ 197 36 [some (.ref a), l1, l2] st σ r ↔ Ev L xs ρ 197 37 [some (.ref a), l1, l2] (.ref a :: st) σ r := ev_aload_n cm_197 dX11_opens_36 rfl rfl
theorem x197_37 : Ev L xs ρ 197 37 [l0, l1, l2] (.ref a :: st) σ r ↔ Ev L xs ρ 197 38 [l0, l1, l2] (.ref a :: .ref a :: st) σ r := ev_nx (ev_ex cm_197 dX11_opens_37 rfl rfl)
theorem x197_38 : Ev L xs ρ 197 38 [l0, l1, l2] (.ref a :: st) (n, I, Lm, Rm) r ↔ (a < n ∧ shp a = (0, 11)) ∧ Ev L xs ρ 197 41 [l0, l1, l2] (.int (I a 58) :: st) (n, I, Lm, Rm) r := ev_gtI cm_197 dX11_opens_38 rfl rfl
theorem x197_41 : Ev L xs ρ 197 41 [l0, l1, l2] st σ r ↔ Ev L xs ρ 197 42 [l0, l1, l2] (.int (1) :: st) σ r := ev_iconst cm_197 dX11_opens_41 (by decide)
theorem x197_42 : Ev L xs ρ 197 42 [l0, l1, l2] (.int y :: .int x :: st) σ r ↔ Ev L xs ρ 197 43 [l0, l1, l2] (.int (x + y) :: st) σ r := ev_nx (ev_ex cm_197 dX11_opens_42 rfl rfl)
theorem x197_43 : Ev L xs ρ 197 43 [l0, l1, l2] (.int x :: .ref a :: st) (n, I, Lm, Rm) r ↔ (a < n ∧ shp a = (0, 11)) ∧ Ev L xs ρ 197 46 [l0, l1, l2] st (n, up2 I a 58 x, Lm, Rm) r := ev_ptI cm_197 dX11_opens_43 rfl rfl (Or.inl rfl)
theorem x197_46 : Ev L xs ρ 197 46 [l0, l1, l2] [] σ r ↔ r = (none, σ) := ev_retv cm_197 dX11_opens_46 rfl
theorem cm_198 : mcd 198 = cX11_isOn := rfl
theorem em_198 : Em L xs 198 [.ref a, .int x] σ r ↔ Ev L xs 0 198 0 [some (.ref a), some (.int x)] [] σ r := Iff.rfl
theorem x198_0 : Ev L xs ρ 198 0 [some (.ref a), l1] st σ r ↔ Ev L xs ρ 198 1 [some (.ref a), l1] (.ref a :: st) σ r := ev_aload_n cm_198 dX11_isOn_0 rfl rfl
theorem x198_1 : Ev L xs ρ 198 1 [l0, l1] (.ref a :: st) (n, I, Lm, Rm) r ↔ (a < n ∧ shp a = (0, 11)) ∧ Ev L xs ρ 198 4 [l0, l1] (.int (I a 58) :: st) (n, I, Lm, Rm) r := ev_gtI cm_198 dX11_isOn_1 rfl rfl
theorem x198_4 : Ev L xs ρ 198 4 [l0, l1] (.int x :: st) σ r ↔ if x ≤ 0 then Ev L xs ρ 198 26 [l0, l1] st σ r else Ev L xs ρ 198 7 [l0, l1] st σ r := ev_ifle cm_198 dX11_isOn_4 (by decide)
theorem x198_7 : Ev L xs ρ 198 7 [some (.ref a), l1] st σ r ↔ Ev L xs ρ 198 8 [some (.ref a), l1] (.ref a :: st) σ r := ev_aload_n cm_198 dX11_isOn_7 rfl rfl
theorem x198_8 : Ev L xs ρ 198 8 [l0, l1] (.ref a :: st) (n, I, Lm, Rm) r ↔ (a < n ∧ shp a = (0, 11)) ∧ Ev L xs ρ 198 11 [l0, l1] (rfv (Rm a 57) :: st) (n, I, Lm, Rm) r := ev_gtR cm_198 dX11_isOn_8 rfl rfl
theorem x198_11 : Ev L xs ρ 198 11 [some (.ref a), l1] st σ r ↔ Ev L xs ρ 198 12 [some (.ref a), l1] (.ref a :: st) σ r := ev_aload_n cm_198 dX11_isOn_11 rfl rfl
theorem x198_12 : Ev L xs ρ 198 12 [l0, l1] (.ref a :: st) (n, I, Lm, Rm) r ↔ (a < n ∧ shp a = (0, 11)) ∧ Ev L xs ρ 198 15 [l0, l1] (.int (I a 58) :: st) (n, I, Lm, Rm) r := ev_gtI cm_198 dX11_isOn_12 rfl rfl
theorem x198_15 : Ev L xs ρ 198 15 [l0, l1] st σ r ↔ Ev L xs ρ 198 16 [l0, l1] (.int (1) :: st) σ r := ev_iconst cm_198 dX11_isOn_15 (by decide)
theorem x198_16 : Ev L xs ρ 198 16 [l0, l1] (.int y :: .int x :: st) σ r ↔ Ev L xs ρ 198 17 [l0, l1] (.int (x - y) :: st) σ r := ev_nx (ev_ex cm_198 dX11_isOn_16 rfl rfl)
theorem x198_17 : Ev L xs ρ 198 17 [l0, l1] (.int x :: .ref a :: st) (n, I, Lm, Rm) r ↔ ((a < n ∧ (shp a).1 = 1) ∧ inb x (shp a).2) ∧ Ev L xs ρ 198 18 [l0, l1] (.int (I a (ixn x)) :: st) (n, I, Lm, Rm) r := ev_iald cm_198 dX11_isOn_17 (by decide)
theorem x198_18 : Ev L xs ρ 198 18 [l0, some (.int x)] st σ r ↔ Ev L xs ρ 198 19 [l0, some (.int x)] (.int x :: st) σ r := ev_iload_n cm_198 dX11_isOn_18 rfl rfl
theorem x198_19 : Ev L xs ρ 198 19 [l0, l1] (.int y :: .int x :: st) σ r ↔ if x = y then Ev L xs ρ 198 22 [l0, l1] st σ r else Ev L xs ρ 198 26 [l0, l1] st σ r := ev_icne cm_198 dX11_isOn_19 (by decide)
theorem x198_22 : Ev L xs ρ 198 22 [l0, l1] st σ r ↔ Ev L xs ρ 198 23 [l0, l1] (.int (1) :: st) σ r := ev_iconst cm_198 dX11_isOn_22 (by decide)
theorem x198_23 : Ev L xs ρ 198 23 [l0, l1] st σ r ↔ Ev L xs ρ 198 27 [l0, l1] st σ r := ev_goto cm_198 dX11_isOn_23 (by decide)
theorem x198_26 : Ev L xs ρ 198 26 [l0, l1] st σ r ↔ Ev L xs ρ 198 27 [l0, l1] (.int (0) :: st) σ r := ev_iconst cm_198 dX11_isOn_26 (by decide)
theorem x198_27 : Ev L xs ρ 198 27 [l0, l1] [.int x] σ r ↔ (x = 0 ∨ x = 1) ∧ r = (some (.int x), σ) := ev_retz cm_198 dX11_isOn_27 rfl
theorem cm_199 : mcd 199 = cX11_drops := rfl
theorem em_199 : Em L xs 199 [.ref a] σ r ↔ Ev L xs 1 199 0 [some (.ref a)] [] σ r := Iff.rfl
theorem x199_0 : Ev L xs ρ 199 0 [some (.ref a)] st σ r ↔ Ev L xs ρ 199 1 [some (.ref a)] (.ref a :: st) σ r := ev_aload_n cm_199 dX11_drops_0 rfl rfl
theorem x199_1 : Ev L xs ρ 199 1 [l0] (.ref a :: st) σ r ↔ Ev L xs ρ 199 2 [l0] (.ref a :: .ref a :: st) σ r := ev_nx (ev_ex cm_199 dX11_drops_1 rfl rfl)
theorem x199_2 : Ev L xs ρ 199 2 [l0] (.ref a :: st) (n, I, Lm, Rm) r ↔ (a < n ∧ shp a = (0, 11)) ∧ Ev L xs ρ 199 5 [l0] (.int (I a 58) :: st) (n, I, Lm, Rm) r := ev_gtI cm_199 dX11_drops_2 rfl rfl
theorem x199_5 : Ev L xs ρ 199 5 [l0] st σ r ↔ Ev L xs ρ 199 6 [l0] (.int (1) :: st) σ r := ev_iconst cm_199 dX11_drops_5 (by decide)
theorem x199_6 : Ev L xs ρ 199 6 [l0] (.int y :: .int x :: st) σ r ↔ Ev L xs ρ 199 7 [l0] (.int (x - y) :: st) σ r := ev_nx (ev_ex cm_199 dX11_drops_6 rfl rfl)
theorem x199_7 : Ev L xs ρ 199 7 [l0] (.int x :: .ref a :: st) (n, I, Lm, Rm) r ↔ (a < n ∧ shp a = (0, 11)) ∧ Ev L xs ρ 199 10 [l0] st (n, up2 I a 58 x, Lm, Rm) r := ev_ptI cm_199 dX11_drops_7 rfl rfl (Or.inl rfl)
theorem x199_10 : Ev L xs ρ 199 10 [some (.ref a)] st σ r ↔ Ev L xs ρ 199 11 [some (.ref a)] (.ref a :: st) σ r := ev_aload_n cm_199 dX11_drops_10 rfl rfl
theorem x199_11 : Ev L xs ρ 199 11 [some (.ref a)] st σ r ↔ Ev L xs ρ 199 12 [some (.ref a)] (.ref a :: st) σ r := ev_aload_n cm_199 dX11_drops_11 rfl rfl
theorem x199_12 : Ev L xs ρ 199 12 [l0] (.ref a :: st) (n, I, Lm, Rm) r ↔ (a < n ∧ shp a = (0, 11)) ∧ Ev L xs ρ 199 15 [l0] (rfv (Rm a 57) :: st) (n, I, Lm, Rm) r := ev_gtR cm_199 dX11_drops_12 rfl rfl
theorem x199_15 : Ev L xs ρ 199 15 [some (.ref a)] st σ r ↔ Ev L xs ρ 199 16 [some (.ref a)] (.ref a :: st) σ r := ev_aload_n cm_199 dX11_drops_15 rfl rfl
theorem x199_16 : Ev L xs ρ 199 16 [l0] (.ref a :: st) (n, I, Lm, Rm) r ↔ (a < n ∧ shp a = (0, 11)) ∧ Ev L xs ρ 199 19 [l0] (.int (I a 58) :: st) (n, I, Lm, Rm) r := ev_gtI cm_199 dX11_drops_16 rfl rfl
theorem x199_19 : Ev L xs ρ 199 19 [l0] (.int x :: .ref a :: st) (n, I, Lm, Rm) r ↔ ((a < n ∧ (shp a).1 = 1) ∧ inb x (shp a).2) ∧ Ev L xs ρ 199 20 [l0] (.int (I a (ixn x)) :: st) (n, I, Lm, Rm) r := ev_iald cm_199 dX11_drops_19 (by decide)
theorem x199_20 : Ev L xs 1 199 20 [l0] (.int x :: .ref a :: []) (n, I, Lm, Rm) r ↔ (a < n ∧ shp a = (0, 11)) ∧ ∃ v n2 I2 L2 R2, Em L xs 196 [.ref a, .int x] (n, I, Lm, Rm) (v, n2, I2, L2, R2) ∧ Ev L xs 1 199 23 [l0] (v.toList ++ []) (n2, I2, L2, R2) r := ev_cV cm_199 [.int x] dX11_drops_20 rfl rfl rfl rfl (Nat.le_of_ble_eq_true rfl) (rka_lt rfl (by decide)) (Nat.le_of_ble_eq_true rfl)
theorem x199_23 : Ev L xs ρ 199 23 [l0] [] σ r ↔ r = (none, σ) := ev_retv cm_199 dX11_drops_23 rfl
theorem cm_200 : mcd 200 = cX11_isMark := rfl
theorem em_200 : Em L xs 200 [.ref a, .int x] σ r ↔ Ev L xs 0 200 0 [some (.ref a), some (.int x)] [] σ r := Iff.rfl
theorem x200_0 : Ev L xs ρ 200 0 [l0, some (.int x)] st σ r ↔ Ev L xs ρ 200 1 [l0, some (.int x)] (.int x :: st) σ r := ev_iload_n cm_200 dX11_isMark_0 rfl rfl
theorem x200_1 : Ev L xs ρ 200 1 [l0, l1] st σ r ↔ Ev L xs ρ 200 3 [l0, l1] (.int (20) :: st) σ r := ev_bipush cm_200 dX11_isMark_1 (by decide)
theorem x200_3 : Ev L xs ρ 200 3 [l0, l1] (.int y :: .int x :: st) σ r ↔ if x < y then Ev L xs ρ 200 16 [l0, l1] st σ r else Ev L xs ρ 200 6 [l0, l1] st σ r := ev_iclt cm_200 dX11_isMark_3 (by decide)
theorem x200_6 : Ev L xs ρ 200 6 [l0, some (.int x)] st σ r ↔ Ev L xs ρ 200 7 [l0, some (.int x)] (.int x :: st) σ r := ev_iload_n cm_200 dX11_isMark_6 rfl rfl
theorem x200_7 : Ev L xs ρ 200 7 [l0, l1] st σ r ↔ Ev L xs ρ 200 9 [l0, l1] (.int (24) :: st) σ r := ev_bipush cm_200 dX11_isMark_7 (by decide)
theorem x200_9 : Ev L xs ρ 200 9 [l0, l1] (.int y :: .int x :: st) σ r ↔ if y < x then Ev L xs ρ 200 16 [l0, l1] st σ r else Ev L xs ρ 200 12 [l0, l1] st σ r := ev_icgt cm_200 dX11_isMark_9 (by decide)
theorem x200_12 : Ev L xs ρ 200 12 [l0, l1] st σ r ↔ Ev L xs ρ 200 13 [l0, l1] (.int (1) :: st) σ r := ev_iconst cm_200 dX11_isMark_12 (by decide)
theorem x200_13 : Ev L xs ρ 200 13 [l0, l1] st σ r ↔ Ev L xs ρ 200 17 [l0, l1] st σ r := ev_goto cm_200 dX11_isMark_13 (by decide)
theorem x200_16 : Ev L xs ρ 200 16 [l0, l1] st σ r ↔ Ev L xs ρ 200 17 [l0, l1] (.int (0) :: st) σ r := ev_iconst cm_200 dX11_isMark_16 (by decide)
theorem x200_17 : Ev L xs ρ 200 17 [l0, l1] [.int x] σ r ↔ (x = 0 ∨ x = 1) ∧ r = (some (.int x), σ) := ev_retz cm_200 dX11_isMark_17 rfl
theorem cm_201 : mcd 201 = cX11_mark := rfl
theorem em_201 : Em L xs 201 [.ref a] σ r ↔ Ev L xs 1 201 0 [some (.ref a), none] [] σ r := Iff.rfl
theorem x201_0 : Ev L xs ρ 201 0 [some (.ref a), l1] st σ r ↔ Ev L xs ρ 201 1 [some (.ref a), l1] (.ref a :: st) σ r := ev_aload_n cm_201 dX11_mark_0 rfl rfl
theorem x201_1 : Ev L xs ρ 201 1 [l0, l1] (.ref a :: st) (n, I, Lm, Rm) r ↔ (a < n ∧ shp a = (0, 11)) ∧ Ev L xs ρ 201 4 [l0, l1] (.int (I a 58) :: st) (n, I, Lm, Rm) r := ev_gtI cm_201 dX11_mark_1 rfl rfl
theorem x201_4 : Ev L xs ρ 201 4 [l0, l1] st σ r ↔ Ev L xs ρ 201 5 [l0, l1] (.int (1) :: st) σ r := ev_iconst cm_201 dX11_mark_4 (by decide)
theorem x201_5 : Ev L xs ρ 201 5 [l0, l1] (.int y :: .int x :: st) σ r ↔ Ev L xs ρ 201 6 [l0, l1] (.int (x - y) :: st) σ r := ev_nx (ev_ex cm_201 dX11_mark_5 rfl rfl)
theorem x201_6 : Ev L xs ρ 201 6 [l0, l1] (.int x :: st) σ r ↔ Ev L xs ρ 201 7 [l0, some (.int x)] st σ r := ev_istore_n cm_201 dX11_mark_6 rfl (Nat.le_of_ble_eq_true rfl)
theorem x201_7 : Ev L xs ρ 201 7 [l0, some (.int x)] st σ r ↔ Ev L xs ρ 201 8 [l0, some (.int x)] (.int x :: st) σ r := ev_iload_n cm_201 dX11_mark_7 rfl rfl
theorem x201_8 : Ev L xs ρ 201 8 [some (.ref a), l1] st σ r ↔ Ev L xs ρ 201 9 [some (.ref a), l1] (.ref a :: st) σ r := ev_aload_n cm_201 dX11_mark_8 rfl rfl
theorem x201_9 : Ev L xs ρ 201 9 [l0, l1] (.ref a :: st) (n, I, Lm, Rm) r ↔ (a < n ∧ shp a = (0, 11)) ∧ Ev L xs ρ 201 12 [l0, l1] (.int (I a 65) :: st) (n, I, Lm, Rm) r := ev_gtI cm_201 dX11_mark_9 rfl rfl
theorem x201_12 : Ev L xs ρ 201 12 [l0, l1] (.int y :: .int x :: st) σ r ↔ if x < y then Ev L xs ρ 201 34 [l0, l1] st σ r else Ev L xs ρ 201 15 [l0, l1] st σ r := ev_iclt cm_201 dX11_mark_12 (by decide)
theorem x201_15 : Ev L xs ρ 201 15 [some (.ref a), l1] st σ r ↔ Ev L xs ρ 201 16 [some (.ref a), l1] (.ref a :: st) σ r := ev_aload_n cm_201 dX11_mark_15 rfl rfl
theorem x201_16 : Ev L xs ρ 201 16 [some (.ref a), l1] st σ r ↔ Ev L xs ρ 201 17 [some (.ref a), l1] (.ref a :: st) σ r := ev_aload_n cm_201 dX11_mark_16 rfl rfl
theorem x201_17 : Ev L xs ρ 201 17 [l0, l1] (.ref a :: st) (n, I, Lm, Rm) r ↔ (a < n ∧ shp a = (0, 11)) ∧ Ev L xs ρ 201 20 [l0, l1] (rfv (Rm a 57) :: st) (n, I, Lm, Rm) r := ev_gtR cm_201 dX11_mark_17 rfl rfl
theorem x201_20 : Ev L xs ρ 201 20 [l0, some (.int x)] st σ r ↔ Ev L xs ρ 201 21 [l0, some (.int x)] (.int x :: st) σ r := ev_iload_n cm_201 dX11_mark_20 rfl rfl
theorem x201_21 : Ev L xs ρ 201 21 [l0, l1] (.int x :: .ref a :: st) (n, I, Lm, Rm) r ↔ ((a < n ∧ (shp a).1 = 1) ∧ inb x (shp a).2) ∧ Ev L xs ρ 201 22 [l0, l1] (.int (I a (ixn x)) :: st) (n, I, Lm, Rm) r := ev_iald cm_201 dX11_mark_21 (by decide)
theorem x201_22 : Ev L xs 1 201 22 [l0, l1] (.int x :: .ref a :: []) (n, I, Lm, Rm) r ↔ (a < n ∧ shp a = (0, 11)) ∧ ∃ v n2 I2 L2 R2, Em L xs 200 [.ref a, .int x] (n, I, Lm, Rm) (v, n2, I2, L2, R2) ∧ Ev L xs 1 201 25 [l0, l1] (v.toList ++ []) (n2, I2, L2, R2) r := ev_cV cm_201 [.int x] dX11_mark_22 rfl rfl rfl rfl (Nat.le_of_ble_eq_true rfl) (rka_lt rfl (by decide)) (Nat.le_of_ble_eq_true rfl)
theorem x201_25 : Ev L xs ρ 201 25 [l0, l1] (.int x :: st) σ r ↔ if x = 0 then Ev L xs ρ 201 28 [l0, l1] st σ r else Ev L xs ρ 201 34 [l0, l1] st σ r := ev_ifne cm_201 dX11_mark_25 (by decide)
theorem x201_28 : Ev L xs ρ 201 28 [l0, some (.int x)] st σ r ↔ Ev L xs ρ 201 31 [l0, some (.int (x + (-1)))] st σ r := ev_iinc cm_201 dX11_mark_28 rfl (by decide)
theorem x201_31 : Ev L xs ρ 201 31 [l0, l1] st σ r ↔ Ev L xs ρ 201 7 [l0, l1] st σ r := ev_goto cm_201 dX11_mark_31 (by decide)
theorem x201_34 : Ev L xs ρ 201 34 [l0, some (.int x)] st σ r ↔ Ev L xs ρ 201 35 [l0, some (.int x)] (.int x :: st) σ r := ev_iload_n cm_201 dX11_mark_34 rfl rfl
theorem x201_35 : Ev L xs ρ 201 35 [some (.ref a), l1] st σ r ↔ Ev L xs ρ 201 36 [some (.ref a), l1] (.ref a :: st) σ r := ev_aload_n cm_201 dX11_mark_35 rfl rfl
theorem x201_36 : Ev L xs ρ 201 36 [l0, l1] (.ref a :: st) (n, I, Lm, Rm) r ↔ (a < n ∧ shp a = (0, 11)) ∧ Ev L xs ρ 201 39 [l0, l1] (.int (I a 65) :: st) (n, I, Lm, Rm) r := ev_gtI cm_201 dX11_mark_36 rfl rfl
theorem x201_39 : Ev L xs ρ 201 39 [l0, l1] (.int y :: .int x :: st) σ r ↔ if x < y then Ev L xs ρ 201 51 [l0, l1] st σ r else Ev L xs ρ 201 42 [l0, l1] st σ r := ev_iclt cm_201 dX11_mark_39 (by decide)
theorem x201_42 : Ev L xs ρ 201 42 [some (.ref a), l1] st σ r ↔ Ev L xs ρ 201 43 [some (.ref a), l1] (.ref a :: st) σ r := ev_aload_n cm_201 dX11_mark_42 rfl rfl
theorem x201_43 : Ev L xs ρ 201 43 [l0, l1] (.ref a :: st) (n, I, Lm, Rm) r ↔ (a < n ∧ shp a = (0, 11)) ∧ Ev L xs ρ 201 46 [l0, l1] (rfv (Rm a 57) :: st) (n, I, Lm, Rm) r := ev_gtR cm_201 dX11_mark_43 rfl rfl
theorem x201_46 : Ev L xs ρ 201 46 [l0, some (.int x)] st σ r ↔ Ev L xs ρ 201 47 [l0, some (.int x)] (.int x :: st) σ r := ev_iload_n cm_201 dX11_mark_46 rfl rfl
theorem x201_47 : Ev L xs ρ 201 47 [l0, l1] (.int x :: .ref a :: st) (n, I, Lm, Rm) r ↔ ((a < n ∧ (shp a).1 = 1) ∧ inb x (shp a).2) ∧ Ev L xs ρ 201 48 [l0, l1] (.int (I a (ixn x)) :: st) (n, I, Lm, Rm) r := ev_iald cm_201 dX11_mark_47 (by decide)
theorem x201_48 : Ev L xs ρ 201 48 [l0, l1] st σ r ↔ Ev L xs ρ 201 52 [l0, l1] st σ r := ev_goto cm_201 dX11_mark_48 (by decide)
theorem x201_51 : Ev L xs ρ 201 51 [l0, l1] st σ r ↔ Ev L xs ρ 201 52 [l0, l1] (.int (-1) :: st) σ r := ev_iconst cm_201 dX11_mark_51 (by decide)
theorem x201_52 : Ev L xs ρ 201 52 [l0, l1] [.int x] σ r ↔ r = (some (.int x), σ) := ev_reti cm_201 dX11_mark_52 rfl
theorem cm_202 : mcd 202 = cX11_dropsToMark := rfl
theorem em_202 : Em L xs 202 [.ref a] σ r ↔ Ev L xs 2 202 0 [some (.ref a)] [] σ r := Iff.rfl
theorem x202_0 : Ev L xs ρ 202 0 [some (.ref a)] st σ r ↔ Ev L xs ρ 202 1 [some (.ref a)] (.ref a :: st) σ r := ev_aload_n cm_202 dX11_dropsToMark_0 rfl rfl
theorem x202_1 : Ev L xs ρ 202 1 [l0] (.ref a :: st) (n, I, Lm, Rm) r ↔ (a < n ∧ shp a = (0, 11)) ∧ Ev L xs ρ 202 4 [l0] (.int (I a 58) :: st) (n, I, Lm, Rm) r := ev_gtI cm_202 dX11_dropsToMark_1 rfl rfl
theorem x202_4 : Ev L xs ρ 202 4 [some (.ref a)] st σ r ↔ Ev L xs ρ 202 5 [some (.ref a)] (.ref a :: st) σ r := ev_aload_n cm_202 dX11_dropsToMark_4 rfl rfl
theorem x202_5 : Ev L xs ρ 202 5 [l0] (.ref a :: st) (n, I, Lm, Rm) r ↔ (a < n ∧ shp a = (0, 11)) ∧ Ev L xs ρ 202 8 [l0] (.int (I a 65) :: st) (n, I, Lm, Rm) r := ev_gtI cm_202 dX11_dropsToMark_5 rfl rfl
theorem x202_8 : Ev L xs ρ 202 8 [l0] (.int y :: .int x :: st) σ r ↔ if x ≤ y then Ev L xs ρ 202 36 [l0] st σ r else Ev L xs ρ 202 11 [l0] st σ r := ev_icle cm_202 dX11_dropsToMark_8 (by decide)
theorem x202_11 : Ev L xs ρ 202 11 [some (.ref a)] st σ r ↔ Ev L xs ρ 202 12 [some (.ref a)] (.ref a :: st) σ r := ev_aload_n cm_202 dX11_dropsToMark_11 rfl rfl
theorem x202_12 : Ev L xs ρ 202 12 [some (.ref a)] st σ r ↔ Ev L xs ρ 202 13 [some (.ref a)] (.ref a :: st) σ r := ev_aload_n cm_202 dX11_dropsToMark_12 rfl rfl
theorem x202_13 : Ev L xs ρ 202 13 [l0] (.ref a :: st) (n, I, Lm, Rm) r ↔ (a < n ∧ shp a = (0, 11)) ∧ Ev L xs ρ 202 16 [l0] (rfv (Rm a 57) :: st) (n, I, Lm, Rm) r := ev_gtR cm_202 dX11_dropsToMark_13 rfl rfl
theorem x202_16 : Ev L xs ρ 202 16 [some (.ref a)] st σ r ↔ Ev L xs ρ 202 17 [some (.ref a)] (.ref a :: st) σ r := ev_aload_n cm_202 dX11_dropsToMark_16 rfl rfl
theorem x202_17 : Ev L xs ρ 202 17 [l0] (.ref a :: st) (n, I, Lm, Rm) r ↔ (a < n ∧ shp a = (0, 11)) ∧ Ev L xs ρ 202 20 [l0] (.int (I a 58) :: st) (n, I, Lm, Rm) r := ev_gtI cm_202 dX11_dropsToMark_17 rfl rfl
theorem x202_20 : Ev L xs ρ 202 20 [l0] st σ r ↔ Ev L xs ρ 202 21 [l0] (.int (1) :: st) σ r := ev_iconst cm_202 dX11_dropsToMark_20 (by decide)
theorem x202_21 : Ev L xs ρ 202 21 [l0] (.int y :: .int x :: st) σ r ↔ Ev L xs ρ 202 22 [l0] (.int (x - y) :: st) σ r := ev_nx (ev_ex cm_202 dX11_dropsToMark_21 rfl rfl)
theorem x202_22 : Ev L xs ρ 202 22 [l0] (.int x :: .ref a :: st) (n, I, Lm, Rm) r ↔ ((a < n ∧ (shp a).1 = 1) ∧ inb x (shp a).2) ∧ Ev L xs ρ 202 23 [l0] (.int (I a (ixn x)) :: st) (n, I, Lm, Rm) r := ev_iald cm_202 dX11_dropsToMark_22 (by decide)
theorem x202_23 : Ev L xs 2 202 23 [l0] (.int x :: .ref a :: []) (n, I, Lm, Rm) r ↔ (a < n ∧ shp a = (0, 11)) ∧ ∃ v n2 I2 L2 R2, Em L xs 200 [.ref a, .int x] (n, I, Lm, Rm) (v, n2, I2, L2, R2) ∧ Ev L xs 2 202 26 [l0] (v.toList ++ []) (n2, I2, L2, R2) r := ev_cV cm_202 [.int x] dX11_dropsToMark_23 rfl rfl rfl rfl (Nat.le_of_ble_eq_true rfl) (rka_lt rfl (by decide)) (Nat.le_of_ble_eq_true rfl)
theorem x202_26 : Ev L xs ρ 202 26 [l0] (.int x :: st) σ r ↔ if x = 0 then Ev L xs ρ 202 29 [l0] st σ r else Ev L xs ρ 202 36 [l0] st σ r := ev_ifne cm_202 dX11_dropsToMark_26 (by decide)
theorem x202_29 : Ev L xs ρ 202 29 [some (.ref a)] st σ r ↔ Ev L xs ρ 202 30 [some (.ref a)] (.ref a :: st) σ r := ev_aload_n cm_202 dX11_dropsToMark_29 rfl rfl
theorem x202_30 : Ev L xs 2 202 30 [l0] (.ref a :: []) (n, I, Lm, Rm) r ↔ (a < n ∧ shp a = (0, 11)) ∧ ∃ v n2 I2 L2 R2, Em L xs 199 [.ref a] (n, I, Lm, Rm) (v, n2, I2, L2, R2) ∧ Ev L xs 2 202 33 [l0] (v.toList ++ []) (n2, I2, L2, R2) r := ev_cV cm_202 [] dX11_dropsToMark_30 rfl rfl rfl rfl (Nat.le_of_ble_eq_true rfl) (rka_lt rfl (by decide)) (Nat.le_of_ble_eq_true rfl)
theorem x202_33 : Ev L xs ρ 202 33 [l0] st σ r ↔ Ev L xs ρ 202 0 [l0] st σ r := ev_goto cm_202 dX11_dropsToMark_33 (by decide)
theorem x202_36 : Ev L xs ρ 202 36 [l0] [] σ r ↔ r = (none, σ) := ev_retv cm_202 dX11_dropsToMark_36 rfl
theorem cm_203 : mcd 203 = cX11_onePart := rfl
theorem em_203 : Em L xs 203 [.ref a] σ r ↔ Ev L xs 4 203 0 [some (.ref a), none, none, none, none] [] σ r := Iff.rfl
theorem x203_0 : Ev L xs ρ 203 0 [l0, l1, l2, l3, l4] st σ r ↔ Ev L xs ρ 203 1 [l0, l1, l2, l3, l4] (.int (1) :: st) σ r := ev_iconst cm_203 dX11_onePart_0 (by decide)
theorem x203_1 : Ev L xs ρ 203 1 [l0, l1, l2, l3, l4] (.int x :: st) σ r ↔ Ev L xs ρ 203 2 [l0, some (.int x), l2, l3, l4] st σ r := ev_istore_n cm_203 dX11_onePart_1 rfl (Nat.le_of_ble_eq_true rfl)
theorem x203_2 : Ev L xs ρ 203 2 [l0, some (.int x), l2, l3, l4] st σ r ↔ Ev L xs ρ 203 3 [l0, some (.int x), l2, l3, l4] (.int x :: st) σ r := ev_iload_n cm_203 dX11_onePart_2 rfl rfl
theorem x203_3 : Ev L xs ρ 203 3 [l0, l1, l2, l3, l4] (.int x :: st) σ r ↔ if x = 0 then Ev L xs ρ 203 146 [l0, l1, l2, l3, l4] st σ r else Ev L xs ρ 203 6 [l0, l1, l2, l3, l4] st σ r := ev_ifeq cm_203 dX11_onePart_3 (by decide)
theorem x203_6 : Ev L xs ρ 203 6 [some (.ref a), l1, l2, l3, l4] st σ r ↔ Ev L xs ρ 203 7 [some (.ref a), l1, l2, l3, l4] (.ref a :: st) σ r := ev_aload_n cm_203 dX11_onePart_6 rfl rfl
theorem x203_7 : Ev L xs ρ 203 7 [l0, l1, l2, l3, l4] (.ref a :: st) (n, I, Lm, Rm) r ↔ (a < n ∧ shp a = (0, 11)) ∧ Ev L xs ρ 203 10 [l0, l1, l2, l3, l4] (.int (I a 5) :: st) (n, I, Lm, Rm) r := ev_gtI cm_203 dX11_onePart_7 rfl rfl
theorem x203_10 : Ev L xs ρ 203 10 [l0, l1, l2, l3, l4] (.int x :: st) σ r ↔ if x = 0 then Ev L xs ρ 203 13 [l0, l1, l2, l3, l4] st σ r else Ev L xs ρ 203 146 [l0, l1, l2, l3, l4] st σ r := ev_ifne cm_203 dX11_onePart_10 (by decide)
theorem x203_13 : Ev L xs ρ 203 13 [some (.ref a), l1, l2, l3, l4] st σ r ↔ Ev L xs ρ 203 14 [some (.ref a), l1, l2, l3, l4] (.ref a :: st) σ r := ev_aload_n cm_203 dX11_onePart_13 rfl rfl
theorem x203_14 : Ev L xs 4 203 14 [l0, l1, l2, l3, l4] (.ref a :: []) (n, I, Lm, Rm) r ↔ (a < n ∧ shp a = (0, 11)) ∧ ∃ v n2 I2 L2 R2, Em L xs 173 [.ref a] (n, I, Lm, Rm) (v, n2, I2, L2, R2) ∧ Ev L xs 4 203 17 [l0, l1, l2, l3, l4] (v.toList ++ []) (n2, I2, L2, R2) r := ev_cV cm_203 [] dX11_onePart_14 rfl rfl rfl rfl (Nat.le_of_ble_eq_true rfl) (rka_lt rfl (by decide)) (Nat.le_of_ble_eq_true rfl)
theorem x203_17 : Ev L xs ρ 203 17 [l0, l1, l2, l3, l4] (.int x :: st) σ r ↔ Ev L xs ρ 203 18 [l0, l1, some (.int x), l3, l4] st σ r := ev_istore_n cm_203 dX11_onePart_17 rfl (Nat.le_of_ble_eq_true rfl)
theorem x203_18 : Ev L xs ρ 203 18 [l0, l1, some (.int x), l3, l4] st σ r ↔ Ev L xs ρ 203 19 [l0, l1, some (.int x), l3, l4] (.int x :: st) σ r := ev_iload_n cm_203 dX11_onePart_18 rfl rfl
theorem x203_19 : Ev L xs ρ 203 19 [l0, l1, l2, l3, l4] st σ r ↔ Ev L xs ρ 203 21 [l0, l1, l2, l3, l4] (.int (40) :: st) σ r := ev_bipush cm_203 dX11_onePart_19 (by decide)
theorem x203_21 : Ev L xs ρ 203 21 [l0, l1, l2, l3, l4] (.int y :: .int x :: st) σ r ↔ if x = y then Ev L xs ρ 203 24 [l0, l1, l2, l3, l4] st σ r else Ev L xs ρ 203 47 [l0, l1, l2, l3, l4] st σ r := ev_icne cm_203 dX11_onePart_21 (by decide)
theorem x203_24 : Ev L xs ρ 203 24 [some (.ref a), l1, l2, l3, l4] st σ r ↔ Ev L xs ρ 203 25 [some (.ref a), l1, l2, l3, l4] (.ref a :: st) σ r := ev_aload_n cm_203 dX11_onePart_24 rfl rfl
theorem x203_25 : Ev L xs ρ 203 25 [l0, l1, l2, l3, l4] st σ r ↔ Ev L xs ρ 203 27 [l0, l1, l2, l3, l4] (.int (20) :: st) σ r := ev_bipush cm_203 dX11_onePart_25 (by decide)
theorem x203_27 : Ev L xs ρ 203 27 [some (.ref a), l1, l2, l3, l4] st σ r ↔ Ev L xs ρ 203 28 [some (.ref a), l1, l2, l3, l4] (.ref a :: st) σ r := ev_aload_n cm_203 dX11_onePart_27 rfl rfl
theorem x203_28 : Ev L xs ρ 203 28 [l0, l1, l2, l3, l4] (.ref a :: st) (n, I, Lm, Rm) r ↔ (a < n ∧ shp a = (0, 11)) ∧ Ev L xs ρ 203 31 [l0, l1, l2, l3, l4] (.int (I a 2) :: st) (n, I, Lm, Rm) r := ev_gtI cm_203 dX11_onePart_28 rfl rfl
theorem x203_31 : Ev L xs 4 203 31 [l0, l1, l2, l3, l4] (.int y :: .int x :: .ref a :: []) (n, I, Lm, Rm) r ↔ (a < n ∧ shp a = (0, 11)) ∧ ∃ v n2 I2 L2 R2, Em L xs 197 [.ref a, .int x, .int y] (n, I, Lm, Rm) (v, n2, I2, L2, R2) ∧ Ev L xs 4 203 34 [l0, l1, l2, l3, l4] (v.toList ++ []) (n2, I2, L2, R2) r := ev_cV cm_203 [.int x, .int y] dX11_onePart_31 rfl rfl rfl rfl (Nat.le_of_ble_eq_true rfl) (rka_lt rfl (by decide)) (Nat.le_of_ble_eq_true rfl)
theorem x203_34 : Ev L xs ρ 203 34 [some (.ref a), l1, l2, l3, l4] st σ r ↔ Ev L xs ρ 203 35 [some (.ref a), l1, l2, l3, l4] (.ref a :: st) σ r := ev_aload_n cm_203 dX11_onePart_34 rfl rfl
theorem x203_35 : Ev L xs ρ 203 35 [l0, l1, l2, l3, l4] (.ref a :: st) σ r ↔ Ev L xs ρ 203 36 [l0, l1, l2, l3, l4] (.ref a :: .ref a :: st) σ r := ev_nx (ev_ex cm_203 dX11_onePart_35 rfl rfl)
theorem x203_36 : Ev L xs ρ 203 36 [l0, l1, l2, l3, l4] (.ref a :: st) (n, I, Lm, Rm) r ↔ (a < n ∧ shp a = (0, 11)) ∧ Ev L xs ρ 203 39 [l0, l1, l2, l3, l4] (.int (I a 2) :: st) (n, I, Lm, Rm) r := ev_gtI cm_203 dX11_onePart_36 rfl rfl
theorem x203_39 : Ev L xs ρ 203 39 [l0, l1, l2, l3, l4] st σ r ↔ Ev L xs ρ 203 40 [l0, l1, l2, l3, l4] (.int (1) :: st) σ r := ev_iconst cm_203 dX11_onePart_39 (by decide)
theorem x203_40 : Ev L xs ρ 203 40 [l0, l1, l2, l3, l4] (.int y :: .int x :: st) σ r ↔ Ev L xs ρ 203 41 [l0, l1, l2, l3, l4] (.int (x + y) :: st) σ r := ev_nx (ev_ex cm_203 dX11_onePart_40 rfl rfl)
theorem x203_41 : Ev L xs ρ 203 41 [l0, l1, l2, l3, l4] (.int x :: .ref a :: st) (n, I, Lm, Rm) r ↔ (a < n ∧ shp a = (0, 11)) ∧ Ev L xs ρ 203 44 [l0, l1, l2, l3, l4] st (n, up2 I a 2 x, Lm, Rm) r := ev_ptI cm_203 dX11_onePart_41 rfl rfl (Or.inl rfl)
theorem x203_44 : Ev L xs ρ 203 44 [l0, l1, l2, l3, l4] st σ r ↔ Ev L xs ρ 203 143 [l0, l1, l2, l3, l4] st σ r := ev_goto cm_203 dX11_onePart_44 (by decide)
theorem x203_47 : Ev L xs ρ 203 47 [some (.ref a), l1, l2, l3, l4] st σ r ↔ Ev L xs ρ 203 48 [some (.ref a), l1, l2, l3, l4] (.ref a :: st) σ r := ev_aload_n cm_203 dX11_onePart_47 rfl rfl
theorem x203_48 : Ev L xs ρ 203 48 [some (.ref a), l1, l2, l3, l4] st σ r ↔ Ev L xs ρ 203 49 [some (.ref a), l1, l2, l3, l4] (.ref a :: st) σ r := ev_aload_n cm_203 dX11_onePart_48 rfl rfl
theorem x203_49 : Ev L xs ρ 203 49 [l0, l1, l2, l3, l4] (.ref a :: st) (n, I, Lm, Rm) r ↔ (a < n ∧ shp a = (0, 11)) ∧ Ev L xs ρ 203 52 [l0, l1, l2, l3, l4] (rfv (Rm a 40) :: st) (n, I, Lm, Rm) r := ev_gtR cm_203 dX11_onePart_49 rfl rfl
theorem x203_52 : Ev L xs 4 203 52 [l0, l1, l2, l3, l4] (.ref b :: .ref a :: []) (n, I, Lm, Rm) r ↔ (a < n ∧ shp a = (0, 11)) ∧ ∃ v n2 I2 L2 R2, Em L xs 174 [.ref a, .ref b] (n, I, Lm, Rm) (v, n2, I2, L2, R2) ∧ Ev L xs 4 203 55 [l0, l1, l2, l3, l4] (v.toList ++ []) (n2, I2, L2, R2) r := ev_cV cm_203 [.ref b] dX11_onePart_52 rfl rfl rfl rfl (Nat.le_of_ble_eq_true rfl) (rka_lt rfl (by decide)) (Nat.le_of_ble_eq_true rfl)
theorem x203_55 : Ev L xs ρ 203 55 [l0, l1, l2, l3, l4] (.int x :: st) σ r ↔ if x = 0 then Ev L xs ρ 203 58 [l0, l1, l2, l3, l4] st σ r else Ev L xs ρ 203 69 [l0, l1, l2, l3, l4] st σ r := ev_ifne cm_203 dX11_onePart_55 (by decide)
theorem x203_58 : Ev L xs ρ 203 58 [some (.ref a), l1, l2, l3, l4] st σ r ↔ Ev L xs ρ 203 59 [some (.ref a), l1, l2, l3, l4] (.ref a :: st) σ r := ev_aload_n cm_203 dX11_onePart_58 rfl rfl
theorem x203_59 : Ev L xs ρ 203 59 [some (.ref a), l1, l2, l3, l4] st σ r ↔ Ev L xs ρ 203 60 [some (.ref a), l1, l2, l3, l4] (.ref a :: st) σ r := ev_aload_n cm_203 dX11_onePart_59 rfl rfl
theorem x203_60 : Ev L xs ρ 203 60 [l0, l1, l2, l3, l4] (.ref a :: st) (n, I, Lm, Rm) r ↔ (a < n ∧ shp a = (0, 11)) ∧ Ev L xs ρ 203 63 [l0, l1, l2, l3, l4] (rfv (Rm a 41) :: st) (n, I, Lm, Rm) r := ev_gtR cm_203 dX11_onePart_60 rfl rfl
theorem x203_63 : Ev L xs 4 203 63 [l0, l1, l2, l3, l4] (.ref b :: .ref a :: []) (n, I, Lm, Rm) r ↔ (a < n ∧ shp a = (0, 11)) ∧ ∃ v n2 I2 L2 R2, Em L xs 174 [.ref a, .ref b] (n, I, Lm, Rm) (v, n2, I2, L2, R2) ∧ Ev L xs 4 203 66 [l0, l1, l2, l3, l4] (v.toList ++ []) (n2, I2, L2, R2) r := ev_cV cm_203 [.ref b] dX11_onePart_63 rfl rfl rfl rfl (Nat.le_of_ble_eq_true rfl) (rka_lt rfl (by decide)) (Nat.le_of_ble_eq_true rfl)
theorem x203_66 : Ev L xs ρ 203 66 [l0, l1, l2, l3, l4] (.int x :: st) σ r ↔ if x = 0 then Ev L xs ρ 203 141 [l0, l1, l2, l3, l4] st σ r else Ev L xs ρ 203 69 [l0, l1, l2, l3, l4] st σ r := ev_ifeq cm_203 dX11_onePart_66 (by decide)
theorem x203_69 : Ev L xs ρ 203 69 [some (.ref a), l1, l2, l3, l4] st σ r ↔ Ev L xs ρ 203 70 [some (.ref a), l1, l2, l3, l4] (.ref a :: st) σ r := ev_aload_n cm_203 dX11_onePart_69 rfl rfl
theorem x203_70 : Ev L xs ρ 203 70 [some (.ref a), l1, l2, l3, l4] st σ r ↔ Ev L xs ρ 203 71 [some (.ref a), l1, l2, l3, l4] (.ref a :: st) σ r := ev_aload_n cm_203 dX11_onePart_70 rfl rfl
theorem x203_71 : Ev L xs ρ 203 71 [l0, l1, l2, l3, l4] (.ref a :: st) (n, I, Lm, Rm) r ↔ (a < n ∧ shp a = (0, 11)) ∧ Ev L xs ρ 203 74 [l0, l1, l2, l3, l4] (rfv (Rm a 40) :: st) (n, I, Lm, Rm) r := ev_gtR cm_203 dX11_onePart_71 rfl rfl
theorem x203_74 : Ev L xs 4 203 74 [l0, l1, l2, l3, l4] (.ref b :: .ref a :: []) (n, I, Lm, Rm) r ↔ (a < n ∧ shp a = (0, 11)) ∧ ∃ v n2 I2 L2 R2, Em L xs 175 [.ref a, .ref b] (n, I, Lm, Rm) (v, n2, I2, L2, R2) ∧ Ev L xs 4 203 77 [l0, l1, l2, l3, l4] (v.toList ++ []) (n2, I2, L2, R2) r := ev_cV cm_203 [.ref b] dX11_onePart_74 rfl rfl rfl rfl (Nat.le_of_ble_eq_true rfl) (rka_lt rfl (by decide)) (Nat.le_of_ble_eq_true rfl)
theorem x203_77 : Ev L xs ρ 203 77 [l0, l1, l2, l3, l4] (.int x :: st) σ r ↔ Ev L xs ρ 203 78 [l0, l1, l2, some (.int x), l4] st σ r := ev_istore_n cm_203 dX11_onePart_77 rfl (Nat.le_of_ble_eq_true rfl)
theorem x203_78 : Ev L xs ρ 203 78 [l0, l1, l2, some (.int x), l4] st σ r ↔ Ev L xs ρ 203 79 [l0, l1, l2, some (.int x), l4] (.int x :: st) σ r := ev_iload_n cm_203 dX11_onePart_78 rfl rfl
theorem x203_79 : Ev L xs ρ 203 79 [l0, l1, l2, l3, l4] (.int x :: st) σ r ↔ if x = 0 then Ev L xs ρ 203 82 [l0, l1, l2, l3, l4] st σ r else Ev L xs ρ 203 90 [l0, l1, l2, l3, l4] st σ r := ev_ifne cm_203 dX11_onePart_79 (by decide)
theorem x203_82 : Ev L xs ρ 203 82 [some (.ref a), l1, l2, l3, l4] st σ r ↔ Ev L xs ρ 203 83 [some (.ref a), l1, l2, l3, l4] (.ref a :: st) σ r := ev_aload_n cm_203 dX11_onePart_82 rfl rfl
theorem x203_83 : Ev L xs ρ 203 83 [some (.ref a), l1, l2, l3, l4] st σ r ↔ Ev L xs ρ 203 84 [some (.ref a), l1, l2, l3, l4] (.ref a :: st) σ r := ev_aload_n cm_203 dX11_onePart_83 rfl rfl
theorem x203_84 : Ev L xs ρ 203 84 [l0, l1, l2, l3, l4] (.ref a :: st) (n, I, Lm, Rm) r ↔ (a < n ∧ shp a = (0, 11)) ∧ Ev L xs ρ 203 87 [l0, l1, l2, l3, l4] (rfv (Rm a 41) :: st) (n, I, Lm, Rm) r := ev_gtR cm_203 dX11_onePart_84 rfl rfl
theorem x203_87 : Ev L xs 4 203 87 [l0, l1, l2, l3, l4] (.ref b :: .ref a :: []) (n, I, Lm, Rm) r ↔ (a < n ∧ shp a = (0, 11)) ∧ ∃ v n2 I2 L2 R2, Em L xs 176 [.ref a, .ref b] (n, I, Lm, Rm) (v, n2, I2, L2, R2) ∧ Ev L xs 4 203 90 [l0, l1, l2, l3, l4] (v.toList ++ []) (n2, I2, L2, R2) r := ev_cV cm_203 [.ref b] dX11_onePart_87 rfl rfl rfl rfl (Nat.le_of_ble_eq_true rfl) (rka_lt rfl (by decide)) (Nat.le_of_ble_eq_true rfl)
theorem x203_90 : Ev L xs ρ 203 90 [some (.ref a), l1, l2, l3, l4] st σ r ↔ Ev L xs ρ 203 91 [some (.ref a), l1, l2, l3, l4] (.ref a :: st) σ r := ev_aload_n cm_203 dX11_onePart_90 rfl rfl
theorem x203_91 : Ev L xs 4 203 91 [l0, l1, l2, l3, l4] (.ref a :: []) (n, I, Lm, Rm) r ↔ (a < n ∧ shp a = (0, 11)) ∧ ∃ v n2 I2 L2 R2, Em L xs 173 [.ref a] (n, I, Lm, Rm) (v, n2, I2, L2, R2) ∧ Ev L xs 4 203 94 [l0, l1, l2, l3, l4] (v.toList ++ []) (n2, I2, L2, R2) r := ev_cV cm_203 [] dX11_onePart_91 rfl rfl rfl rfl (Nat.le_of_ble_eq_true rfl) (rka_lt rfl (by decide)) (Nat.le_of_ble_eq_true rfl)
theorem x203_94 : Ev L xs ρ 203 94 [l0, l1, l2, l3, l4] st σ r ↔ Ev L xs ρ 203 96 [l0, l1, l2, l3, l4] (.int (40) :: st) σ r := ev_bipush cm_203 dX11_onePart_94 (by decide)
theorem x203_96 : Ev L xs ρ 203 96 [l0, l1, l2, l3, l4] (.int y :: .int x :: st) σ r ↔ if x = y then Ev L xs ρ 203 99 [l0, l1, l2, l3, l4] st σ r else Ev L xs ρ 203 106 [l0, l1, l2, l3, l4] st σ r := ev_icne cm_203 dX11_onePart_96 (by decide)
theorem x203_99 : Ev L xs ρ 203 99 [some (.ref a), l1, l2, l3, l4] st σ r ↔ Ev L xs ρ 203 100 [some (.ref a), l1, l2, l3, l4] (.ref a :: st) σ r := ev_aload_n cm_203 dX11_onePart_99 rfl rfl
theorem x203_100 : Ev L xs ρ 203 100 [l0, l1, l2, l3, l4] (.ref a :: st) (n, I, Lm, Rm) r ↔ (a < n ∧ shp a = (0, 11)) ∧ Ev L xs ρ 203 103 [l0, l1, l2, l3, l4] (.int (I a 2) :: st) (n, I, Lm, Rm) r := ev_gtI cm_203 dX11_onePart_100 rfl rfl
theorem x203_103 : Ev L xs ρ 203 103 [l0, l1, l2, l3, l4] st σ r ↔ Ev L xs ρ 203 107 [l0, l1, l2, l3, l4] st σ r := ev_goto cm_203 dX11_onePart_103 (by decide)
theorem x203_106 : Ev L xs ρ 203 106 [l0, l1, l2, l3, l4] st σ r ↔ Ev L xs ρ 203 107 [l0, l1, l2, l3, l4] (.int (-1) :: st) σ r := ev_iconst cm_203 dX11_onePart_106 (by decide)
theorem x203_107 : Ev L xs ρ 203 107 [l0, l1, l2, l3, l4] (.int x :: st) σ r ↔ Ev L xs ρ 203 109 [l0, l1, l2, l3, some (.int x)] st σ r := ev_istore cm_203 dX11_onePart_107 (Nat.le_of_ble_eq_true rfl)
theorem x203_109 : Ev L xs ρ 203 109 [l0, l1, l2, l3, some (.int x)] st σ r ↔ Ev L xs ρ 203 111 [l0, l1, l2, l3, some (.int x)] (.int x :: st) σ r := ev_iload cm_203 dX11_onePart_109 rfl
theorem x203_111 : Ev L xs ρ 203 111 [l0, l1, l2, l3, l4] st σ r ↔ Ev L xs ρ 203 112 [l0, l1, l2, l3, l4] (.int (-1) :: st) σ r := ev_iconst cm_203 dX11_onePart_111 (by decide)
theorem x203_112 : Ev L xs ρ 203 112 [l0, l1, l2, l3, l4] (.int y :: .int x :: st) σ r ↔ if x = y then Ev L xs ρ 203 132 [l0, l1, l2, l3, l4] st σ r else Ev L xs ρ 203 115 [l0, l1, l2, l3, l4] st σ r := ev_iceq cm_203 dX11_onePart_112 (by decide)
theorem x203_115 : Ev L xs ρ 203 115 [some (.ref a), l1, l2, l3, l4] st σ r ↔ Ev L xs ρ 203 116 [some (.ref a), l1, l2, l3, l4] (.ref a :: st) σ r := ev_aload_n cm_203 dX11_onePart_115 rfl rfl
theorem x203_116 : Ev L xs ρ 203 116 [l0, l1, l2, some (.int x), l4] st σ r ↔ Ev L xs ρ 203 117 [l0, l1, l2, some (.int x), l4] (.int x :: st) σ r := ev_iload_n cm_203 dX11_onePart_116 rfl rfl
theorem x203_117 : Ev L xs ρ 203 117 [l0, l1, l2, l3, l4] (.int x :: st) σ r ↔ if x = 0 then Ev L xs ρ 203 125 [l0, l1, l2, l3, l4] st σ r else Ev L xs ρ 203 120 [l0, l1, l2, l3, l4] st σ r := ev_ifeq cm_203 dX11_onePart_117 (by decide)
theorem x203_120 : Ev L xs ρ 203 120 [l0, l1, l2, l3, l4] st σ r ↔ Ev L xs ρ 203 122 [l0, l1, l2, l3, l4] (.int (21) :: st) σ r := ev_bipush cm_203 dX11_onePart_120 (by decide)
theorem x203_122 : Ev L xs ρ 203 122 [l0, l1, l2, l3, l4] st σ r ↔ Ev L xs ρ 203 127 [l0, l1, l2, l3, l4] st σ r := ev_goto cm_203 dX11_onePart_122 (by decide)
theorem x203_125 : Ev L xs ρ 203 125 [l0, l1, l2, l3, l4] st σ r ↔ Ev L xs ρ 203 127 [l0, l1, l2, l3, l4] (.int (22) :: st) σ r := ev_bipush cm_203 dX11_onePart_125 (by decide)
theorem x203_127 : Ev L xs ρ 203 127 [l0, l1, l2, l3, some (.int x)] st σ r ↔ Ev L xs ρ 203 129 [l0, l1, l2, l3, some (.int x)] (.int x :: st) σ r := ev_iload cm_203 dX11_onePart_127 rfl
theorem x203_129 : Ev L xs 4 203 129 [l0, l1, l2, l3, l4] (.int y :: .int x :: .ref a :: []) (n, I, Lm, Rm) r ↔ (a < n ∧ shp a = (0, 11)) ∧ ∃ v n2 I2 L2 R2, Em L xs 197 [.ref a, .int x, .int y] (n, I, Lm, Rm) (v, n2, I2, L2, R2) ∧ Ev L xs 4 203 132 [l0, l1, l2, l3, l4] (v.toList ++ []) (n2, I2, L2, R2) r := ev_cV cm_203 [.int x, .int y] dX11_onePart_129 rfl rfl rfl rfl (Nat.le_of_ble_eq_true rfl) (rka_lt rfl (by decide)) (Nat.le_of_ble_eq_true rfl)
theorem x203_132 : Ev L xs ρ 203 132 [some (.ref a), l1, l2, l3, l4] st σ r ↔ Ev L xs ρ 203 133 [some (.ref a), l1, l2, l3, l4] (.ref a :: st) σ r := ev_aload_n cm_203 dX11_onePart_132 rfl rfl
theorem x203_133 : Ev L xs ρ 203 133 [l0, l1, l2, l3, l4] st σ r ↔ Ev L xs ρ 203 135 [l0, l1, l2, l3, l4] (.int (40) :: st) σ r := ev_bipush cm_203 dX11_onePart_133 (by decide)
theorem x203_135 : Ev L xs 4 203 135 [l0, l1, l2, l3, l4] (.int x :: .ref a :: []) (n, I, Lm, Rm) r ↔ (a < n ∧ shp a = (0, 11)) ∧ ∃ v n2 I2 L2 R2, Em L xs 178 [.ref a, .int x] (n, I, Lm, Rm) (v, n2, I2, L2, R2) ∧ Ev L xs 4 203 138 [l0, l1, l2, l3, l4] (v.toList ++ []) (n2, I2, L2, R2) r := ev_cV cm_203 [.int x] dX11_onePart_135 rfl rfl rfl rfl (Nat.le_of_ble_eq_true rfl) (rka_lt rfl (by decide)) (Nat.le_of_ble_eq_true rfl)
theorem x203_138 : Ev L xs ρ 203 138 [l0, l1, l2, l3, l4] st σ r ↔ Ev L xs ρ 203 143 [l0, l1, l2, l3, l4] st σ r := ev_goto cm_203 dX11_onePart_138 (by decide)
theorem x203_141 : Ev L xs ρ 203 141 [l0, l1, l2, l3, l4] st σ r ↔ Ev L xs ρ 203 142 [l0, l1, l2, l3, l4] (.int (0) :: st) σ r := ev_iconst cm_203 dX11_onePart_141 (by decide)
theorem x203_142 : Ev L xs ρ 203 142 [l0, l1, l2, l3, l4] (.int x :: st) σ r ↔ Ev L xs ρ 203 143 [l0, some (.int x), l2, l3, l4] st σ r := ev_istore_n cm_203 dX11_onePart_142 rfl (Nat.le_of_ble_eq_true rfl)
theorem x203_143 : Ev L xs ρ 203 143 [l0, l1, l2, l3, l4] st σ r ↔ Ev L xs ρ 203 2 [l0, l1, l2, l3, l4] st σ r := ev_goto cm_203 dX11_onePart_143 (by decide)
theorem x203_146 : Ev L xs ρ 203 146 [some (.ref a), l1, l2, l3, l4] st σ r ↔ Ev L xs ρ 203 147 [some (.ref a), l1, l2, l3, l4] (.ref a :: st) σ r := ev_aload_n cm_203 dX11_onePart_146 rfl rfl
theorem x203_147 : Ev L xs ρ 203 147 [l0, l1, l2, l3, l4] (.ref a :: st) (n, I, Lm, Rm) r ↔ (a < n ∧ shp a = (0, 11)) ∧ Ev L xs ρ 203 150 [l0, l1, l2, l3, l4] (.int (I a 5) :: st) (n, I, Lm, Rm) r := ev_gtI cm_203 dX11_onePart_147 rfl rfl
theorem x203_150 : Ev L xs ρ 203 150 [l0, l1, l2, l3, l4] (.int x :: st) σ r ↔ if x = 0 then Ev L xs ρ 203 154 [l0, l1, l2, l3, l4] st σ r else Ev L xs ρ 203 153 [l0, l1, l2, l3, l4] st σ r := ev_ifeq cm_203 dX11_onePart_150 (by decide)
theorem x203_153 : Ev L xs ρ 203 153 [l0, l1, l2, l3, l4] [] σ r ↔ r = (none, σ) := ev_retv cm_203 dX11_onePart_153 rfl
theorem x203_154 : Ev L xs ρ 203 154 [some (.ref a), l1, l2, l3, l4] st σ r ↔ Ev L xs ρ 203 155 [some (.ref a), l1, l2, l3, l4] (.ref a :: st) σ r := ev_aload_n cm_203 dX11_onePart_154 rfl rfl
theorem x203_155 : Ev L xs ρ 203 155 [some (.ref a), l1, l2, l3, l4] st σ r ↔ Ev L xs ρ 203 156 [some (.ref a), l1, l2, l3, l4] (.ref a :: st) σ r := ev_aload_n cm_203 dX11_onePart_155 rfl rfl
theorem x203_156 : Ev L xs ρ 203 156 [l0, l1, l2, l3, l4] (.ref a :: st) (n, I, Lm, Rm) r ↔ (a < n ∧ shp a = (0, 11)) ∧ Ev L xs ρ 203 159 [l0, l1, l2, l3, l4] (rfv (Rm a 33) :: st) (n, I, Lm, Rm) r := ev_gtR cm_203 dX11_onePart_156 rfl rfl
theorem x203_159 : Ev L xs 4 203 159 [l0, l1, l2, l3, l4] (.ref b :: .ref a :: []) (n, I, Lm, Rm) r ↔ (a < n ∧ shp a = (0, 11)) ∧ ∃ v n2 I2 L2 R2, Em L xs 175 [.ref a, .ref b] (n, I, Lm, Rm) (v, n2, I2, L2, R2) ∧ Ev L xs 4 203 162 [l0, l1, l2, l3, l4] (v.toList ++ []) (n2, I2, L2, R2) r := ev_cV cm_203 [.ref b] dX11_onePart_159 rfl rfl rfl rfl (Nat.le_of_ble_eq_true rfl) (rka_lt rfl (by decide)) (Nat.le_of_ble_eq_true rfl)
theorem x203_162 : Ev L xs ρ 203 162 [l0, l1, l2, l3, l4] (.int x :: st) σ r ↔ if x = 0 then Ev L xs ρ 203 170 [l0, l1, l2, l3, l4] st σ r else Ev L xs ρ 203 165 [l0, l1, l2, l3, l4] st σ r := ev_ifeq cm_203 dX11_onePart_162 (by decide)
theorem x203_165 : Ev L xs ρ 203 165 [l0, l1, l2, l3, l4] st σ r ↔ Ev L xs ρ 203 167 [l0, l1, l2, l3, l4] (.int (7) :: st) σ r := ev_bipush cm_203 dX11_onePart_165 (by decide)
theorem x203_167 : Ev L xs ρ 203 167 [l0, l1, l2, l3, l4] st σ r ↔ Ev L xs ρ 203 219 [l0, l1, l2, l3, l4] st σ r := ev_goto cm_203 dX11_onePart_167 (by decide)
theorem x203_170 : Ev L xs ρ 203 170 [some (.ref a), l1, l2, l3, l4] st σ r ↔ Ev L xs ρ 203 171 [some (.ref a), l1, l2, l3, l4] (.ref a :: st) σ r := ev_aload_n cm_203 dX11_onePart_170 rfl rfl
theorem x203_171 : Ev L xs ρ 203 171 [some (.ref a), l1, l2, l3, l4] st σ r ↔ Ev L xs ρ 203 172 [some (.ref a), l1, l2, l3, l4] (.ref a :: st) σ r := ev_aload_n cm_203 dX11_onePart_171 rfl rfl
theorem x203_172 : Ev L xs ρ 203 172 [l0, l1, l2, l3, l4] (.ref a :: st) (n, I, Lm, Rm) r ↔ (a < n ∧ shp a = (0, 11)) ∧ Ev L xs ρ 203 175 [l0, l1, l2, l3, l4] (rfv (Rm a 11) :: st) (n, I, Lm, Rm) r := ev_gtR cm_203 dX11_onePart_172 rfl rfl
theorem x203_175 : Ev L xs 4 203 175 [l0, l1, l2, l3, l4] (.ref b :: .ref a :: []) (n, I, Lm, Rm) r ↔ (a < n ∧ shp a = (0, 11)) ∧ ∃ v n2 I2 L2 R2, Em L xs 175 [.ref a, .ref b] (n, I, Lm, Rm) (v, n2, I2, L2, R2) ∧ Ev L xs 4 203 178 [l0, l1, l2, l3, l4] (v.toList ++ []) (n2, I2, L2, R2) r := ev_cV cm_203 [.ref b] dX11_onePart_175 rfl rfl rfl rfl (Nat.le_of_ble_eq_true rfl) (rka_lt rfl (by decide)) (Nat.le_of_ble_eq_true rfl)
theorem x203_178 : Ev L xs ρ 203 178 [l0, l1, l2, l3, l4] (.int x :: st) σ r ↔ if x = 0 then Ev L xs ρ 203 186 [l0, l1, l2, l3, l4] st σ r else Ev L xs ρ 203 181 [l0, l1, l2, l3, l4] st σ r := ev_ifeq cm_203 dX11_onePart_178 (by decide)
theorem x203_181 : Ev L xs ρ 203 181 [l0, l1, l2, l3, l4] st σ r ↔ Ev L xs ρ 203 183 [l0, l1, l2, l3, l4] (.int (8) :: st) σ r := ev_bipush cm_203 dX11_onePart_181 (by decide)
theorem x203_183 : Ev L xs ρ 203 183 [l0, l1, l2, l3, l4] st σ r ↔ Ev L xs ρ 203 219 [l0, l1, l2, l3, l4] st σ r := ev_goto cm_203 dX11_onePart_183 (by decide)
theorem x203_186 : Ev L xs ρ 203 186 [some (.ref a), l1, l2, l3, l4] st σ r ↔ Ev L xs ρ 203 187 [some (.ref a), l1, l2, l3, l4] (.ref a :: st) σ r := ev_aload_n cm_203 dX11_onePart_186 rfl rfl
theorem x203_187 : Ev L xs ρ 203 187 [some (.ref a), l1, l2, l3, l4] st σ r ↔ Ev L xs ρ 203 188 [some (.ref a), l1, l2, l3, l4] (.ref a :: st) σ r := ev_aload_n cm_203 dX11_onePart_187 rfl rfl
theorem x203_188 : Ev L xs ρ 203 188 [l0, l1, l2, l3, l4] (.ref a :: st) (n, I, Lm, Rm) r ↔ (a < n ∧ shp a = (0, 11)) ∧ Ev L xs ρ 203 191 [l0, l1, l2, l3, l4] (rfv (Rm a 34) :: st) (n, I, Lm, Rm) r := ev_gtR cm_203 dX11_onePart_188 rfl rfl
theorem x203_191 : Ev L xs 4 203 191 [l0, l1, l2, l3, l4] (.ref b :: .ref a :: []) (n, I, Lm, Rm) r ↔ (a < n ∧ shp a = (0, 11)) ∧ ∃ v n2 I2 L2 R2, Em L xs 175 [.ref a, .ref b] (n, I, Lm, Rm) (v, n2, I2, L2, R2) ∧ Ev L xs 4 203 194 [l0, l1, l2, l3, l4] (v.toList ++ []) (n2, I2, L2, R2) r := ev_cV cm_203 [.ref b] dX11_onePart_191 rfl rfl rfl rfl (Nat.le_of_ble_eq_true rfl) (rka_lt rfl (by decide)) (Nat.le_of_ble_eq_true rfl)
theorem x203_194 : Ev L xs ρ 203 194 [l0, l1, l2, l3, l4] (.int x :: st) σ r ↔ if x = 0 then Ev L xs ρ 203 202 [l0, l1, l2, l3, l4] st σ r else Ev L xs ρ 203 197 [l0, l1, l2, l3, l4] st σ r := ev_ifeq cm_203 dX11_onePart_194 (by decide)
theorem x203_197 : Ev L xs ρ 203 197 [l0, l1, l2, l3, l4] st σ r ↔ Ev L xs ρ 203 199 [l0, l1, l2, l3, l4] (.int (9) :: st) σ r := ev_bipush cm_203 dX11_onePart_197 (by decide)
theorem x203_199 : Ev L xs ρ 203 199 [l0, l1, l2, l3, l4] st σ r ↔ Ev L xs ρ 203 219 [l0, l1, l2, l3, l4] st σ r := ev_goto cm_203 dX11_onePart_199 (by decide)
theorem x203_202 : Ev L xs ρ 203 202 [some (.ref a), l1, l2, l3, l4] st σ r ↔ Ev L xs ρ 203 203 [some (.ref a), l1, l2, l3, l4] (.ref a :: st) σ r := ev_aload_n cm_203 dX11_onePart_202 rfl rfl
theorem x203_203 : Ev L xs ρ 203 203 [some (.ref a), l1, l2, l3, l4] st σ r ↔ Ev L xs ρ 203 204 [some (.ref a), l1, l2, l3, l4] (.ref a :: st) σ r := ev_aload_n cm_203 dX11_onePart_203 rfl rfl
theorem x203_204 : Ev L xs ρ 203 204 [l0, l1, l2, l3, l4] (.ref a :: st) (n, I, Lm, Rm) r ↔ (a < n ∧ shp a = (0, 11)) ∧ Ev L xs ρ 203 207 [l0, l1, l2, l3, l4] (rfv (Rm a 35) :: st) (n, I, Lm, Rm) r := ev_gtR cm_203 dX11_onePart_204 rfl rfl
theorem x203_207 : Ev L xs 4 203 207 [l0, l1, l2, l3, l4] (.ref b :: .ref a :: []) (n, I, Lm, Rm) r ↔ (a < n ∧ shp a = (0, 11)) ∧ ∃ v n2 I2 L2 R2, Em L xs 175 [.ref a, .ref b] (n, I, Lm, Rm) (v, n2, I2, L2, R2) ∧ Ev L xs 4 203 210 [l0, l1, l2, l3, l4] (v.toList ++ []) (n2, I2, L2, R2) r := ev_cV cm_203 [.ref b] dX11_onePart_207 rfl rfl rfl rfl (Nat.le_of_ble_eq_true rfl) (rka_lt rfl (by decide)) (Nat.le_of_ble_eq_true rfl)
theorem x203_210 : Ev L xs ρ 203 210 [l0, l1, l2, l3, l4] (.int x :: st) σ r ↔ if x = 0 then Ev L xs ρ 203 218 [l0, l1, l2, l3, l4] st σ r else Ev L xs ρ 203 213 [l0, l1, l2, l3, l4] st σ r := ev_ifeq cm_203 dX11_onePart_210 (by decide)
theorem x203_213 : Ev L xs ρ 203 213 [l0, l1, l2, l3, l4] st σ r ↔ Ev L xs ρ 203 215 [l0, l1, l2, l3, l4] (.int (10) :: st) σ r := ev_bipush cm_203 dX11_onePart_213 (by decide)
theorem x203_215 : Ev L xs ρ 203 215 [l0, l1, l2, l3, l4] st σ r ↔ Ev L xs ρ 203 219 [l0, l1, l2, l3, l4] st σ r := ev_goto cm_203 dX11_onePart_215 (by decide)
theorem x203_218 : Ev L xs ρ 203 218 [l0, l1, l2, l3, l4] st σ r ↔ Ev L xs ρ 203 219 [l0, l1, l2, l3, l4] (.int (-1) :: st) σ r := ev_iconst cm_203 dX11_onePart_218 (by decide)
theorem x203_219 : Ev L xs ρ 203 219 [l0, l1, l2, l3, l4] (.int x :: st) σ r ↔ Ev L xs ρ 203 220 [l0, l1, some (.int x), l3, l4] st σ r := ev_istore_n cm_203 dX11_onePart_219 rfl (Nat.le_of_ble_eq_true rfl)
theorem x203_220 : Ev L xs ρ 203 220 [l0, l1, some (.int x), l3, l4] st σ r ↔ Ev L xs ρ 203 221 [l0, l1, some (.int x), l3, l4] (.int x :: st) σ r := ev_iload_n cm_203 dX11_onePart_220 rfl rfl
theorem x203_221 : Ev L xs ρ 203 221 [l0, l1, l2, l3, l4] st σ r ↔ Ev L xs ρ 203 222 [l0, l1, l2, l3, l4] (.int (-1) :: st) σ r := ev_iconst cm_203 dX11_onePart_221 (by decide)
theorem x203_222 : Ev L xs ρ 203 222 [l0, l1, l2, l3, l4] (.int y :: .int x :: st) σ r ↔ if x = y then Ev L xs ρ 203 225 [l0, l1, l2, l3, l4] st σ r else Ev L xs ρ 203 291 [l0, l1, l2, l3, l4] st σ r := ev_icne cm_203 dX11_onePart_222 (by decide)
theorem x203_225 : Ev L xs ρ 203 225 [some (.ref a), l1, l2, l3, l4] st σ r ↔ Ev L xs ρ 203 226 [some (.ref a), l1, l2, l3, l4] (.ref a :: st) σ r := ev_aload_n cm_203 dX11_onePart_225 rfl rfl
theorem x203_226 : Ev L xs ρ 203 226 [some (.ref a), l1, l2, l3, l4] st σ r ↔ Ev L xs ρ 203 227 [some (.ref a), l1, l2, l3, l4] (.ref a :: st) σ r := ev_aload_n cm_203 dX11_onePart_226 rfl rfl
theorem x203_227 : Ev L xs ρ 203 227 [l0, l1, l2, l3, l4] (.ref a :: st) (n, I, Lm, Rm) r ↔ (a < n ∧ shp a = (0, 11)) ∧ Ev L xs ρ 203 230 [l0, l1, l2, l3, l4] (rfv (Rm a 36) :: st) (n, I, Lm, Rm) r := ev_gtR cm_203 dX11_onePart_227 rfl rfl
theorem x203_230 : Ev L xs 4 203 230 [l0, l1, l2, l3, l4] (.ref b :: .ref a :: []) (n, I, Lm, Rm) r ↔ (a < n ∧ shp a = (0, 11)) ∧ ∃ v n2 I2 L2 R2, Em L xs 175 [.ref a, .ref b] (n, I, Lm, Rm) (v, n2, I2, L2, R2) ∧ Ev L xs 4 203 233 [l0, l1, l2, l3, l4] (v.toList ++ []) (n2, I2, L2, R2) r := ev_cV cm_203 [.ref b] dX11_onePart_230 rfl rfl rfl rfl (Nat.le_of_ble_eq_true rfl) (rka_lt rfl (by decide)) (Nat.le_of_ble_eq_true rfl)
theorem x203_233 : Ev L xs ρ 203 233 [l0, l1, l2, l3, l4] (.int x :: st) σ r ↔ if x = 0 then Ev L xs ρ 203 241 [l0, l1, l2, l3, l4] st σ r else Ev L xs ρ 203 236 [l0, l1, l2, l3, l4] st σ r := ev_ifeq cm_203 dX11_onePart_233 (by decide)
theorem x203_236 : Ev L xs ρ 203 236 [l0, l1, l2, l3, l4] st σ r ↔ Ev L xs ρ 203 238 [l0, l1, l2, l3, l4] (.int (18) :: st) σ r := ev_bipush cm_203 dX11_onePart_236 (by decide)
theorem x203_238 : Ev L xs ρ 203 238 [l0, l1, l2, l3, l4] st σ r ↔ Ev L xs ρ 203 290 [l0, l1, l2, l3, l4] st σ r := ev_goto cm_203 dX11_onePart_238 (by decide)
theorem x203_241 : Ev L xs ρ 203 241 [some (.ref a), l1, l2, l3, l4] st σ r ↔ Ev L xs ρ 203 242 [some (.ref a), l1, l2, l3, l4] (.ref a :: st) σ r := ev_aload_n cm_203 dX11_onePart_241 rfl rfl
theorem x203_242 : Ev L xs ρ 203 242 [some (.ref a), l1, l2, l3, l4] st σ r ↔ Ev L xs ρ 203 243 [some (.ref a), l1, l2, l3, l4] (.ref a :: st) σ r := ev_aload_n cm_203 dX11_onePart_242 rfl rfl
theorem x203_243 : Ev L xs ρ 203 243 [l0, l1, l2, l3, l4] (.ref a :: st) (n, I, Lm, Rm) r ↔ (a < n ∧ shp a = (0, 11)) ∧ Ev L xs ρ 203 246 [l0, l1, l2, l3, l4] (rfv (Rm a 37) :: st) (n, I, Lm, Rm) r := ev_gtR cm_203 dX11_onePart_243 rfl rfl
theorem x203_246 : Ev L xs 4 203 246 [l0, l1, l2, l3, l4] (.ref b :: .ref a :: []) (n, I, Lm, Rm) r ↔ (a < n ∧ shp a = (0, 11)) ∧ ∃ v n2 I2 L2 R2, Em L xs 175 [.ref a, .ref b] (n, I, Lm, Rm) (v, n2, I2, L2, R2) ∧ Ev L xs 4 203 249 [l0, l1, l2, l3, l4] (v.toList ++ []) (n2, I2, L2, R2) r := ev_cV cm_203 [.ref b] dX11_onePart_246 rfl rfl rfl rfl (Nat.le_of_ble_eq_true rfl) (rka_lt rfl (by decide)) (Nat.le_of_ble_eq_true rfl)
theorem x203_249 : Ev L xs ρ 203 249 [l0, l1, l2, l3, l4] (.int x :: st) σ r ↔ if x = 0 then Ev L xs ρ 203 257 [l0, l1, l2, l3, l4] st σ r else Ev L xs ρ 203 252 [l0, l1, l2, l3, l4] st σ r := ev_ifeq cm_203 dX11_onePart_249 (by decide)
theorem x203_252 : Ev L xs ρ 203 252 [l0, l1, l2, l3, l4] st σ r ↔ Ev L xs ρ 203 254 [l0, l1, l2, l3, l4] (.int (30) :: st) σ r := ev_bipush cm_203 dX11_onePart_252 (by decide)
theorem x203_254 : Ev L xs ρ 203 254 [l0, l1, l2, l3, l4] st σ r ↔ Ev L xs ρ 203 290 [l0, l1, l2, l3, l4] st σ r := ev_goto cm_203 dX11_onePart_254 (by decide)
theorem x203_257 : Ev L xs ρ 203 257 [some (.ref a), l1, l2, l3, l4] st σ r ↔ Ev L xs ρ 203 258 [some (.ref a), l1, l2, l3, l4] (.ref a :: st) σ r := ev_aload_n cm_203 dX11_onePart_257 rfl rfl
theorem x203_258 : Ev L xs ρ 203 258 [some (.ref a), l1, l2, l3, l4] st σ r ↔ Ev L xs ρ 203 259 [some (.ref a), l1, l2, l3, l4] (.ref a :: st) σ r := ev_aload_n cm_203 dX11_onePart_258 rfl rfl
theorem x203_259 : Ev L xs ρ 203 259 [l0, l1, l2, l3, l4] (.ref a :: st) (n, I, Lm, Rm) r ↔ (a < n ∧ shp a = (0, 11)) ∧ Ev L xs ρ 203 262 [l0, l1, l2, l3, l4] (rfv (Rm a 38) :: st) (n, I, Lm, Rm) r := ev_gtR cm_203 dX11_onePart_259 rfl rfl
theorem x203_262 : Ev L xs 4 203 262 [l0, l1, l2, l3, l4] (.ref b :: .ref a :: []) (n, I, Lm, Rm) r ↔ (a < n ∧ shp a = (0, 11)) ∧ ∃ v n2 I2 L2 R2, Em L xs 175 [.ref a, .ref b] (n, I, Lm, Rm) (v, n2, I2, L2, R2) ∧ Ev L xs 4 203 265 [l0, l1, l2, l3, l4] (v.toList ++ []) (n2, I2, L2, R2) r := ev_cV cm_203 [.ref b] dX11_onePart_262 rfl rfl rfl rfl (Nat.le_of_ble_eq_true rfl) (rka_lt rfl (by decide)) (Nat.le_of_ble_eq_true rfl)
theorem x203_265 : Ev L xs ρ 203 265 [l0, l1, l2, l3, l4] (.int x :: st) σ r ↔ if x = 0 then Ev L xs ρ 203 273 [l0, l1, l2, l3, l4] st σ r else Ev L xs ρ 203 268 [l0, l1, l2, l3, l4] st σ r := ev_ifeq cm_203 dX11_onePart_265 (by decide)
theorem x203_268 : Ev L xs ρ 203 268 [l0, l1, l2, l3, l4] st σ r ↔ Ev L xs ρ 203 270 [l0, l1, l2, l3, l4] (.int (31) :: st) σ r := ev_bipush cm_203 dX11_onePart_268 (by decide)
theorem x203_270 : Ev L xs ρ 203 270 [l0, l1, l2, l3, l4] st σ r ↔ Ev L xs ρ 203 290 [l0, l1, l2, l3, l4] st σ r := ev_goto cm_203 dX11_onePart_270 (by decide)
theorem x203_273 : Ev L xs ρ 203 273 [some (.ref a), l1, l2, l3, l4] st σ r ↔ Ev L xs ρ 203 274 [some (.ref a), l1, l2, l3, l4] (.ref a :: st) σ r := ev_aload_n cm_203 dX11_onePart_273 rfl rfl
theorem x203_274 : Ev L xs ρ 203 274 [some (.ref a), l1, l2, l3, l4] st σ r ↔ Ev L xs ρ 203 275 [some (.ref a), l1, l2, l3, l4] (.ref a :: st) σ r := ev_aload_n cm_203 dX11_onePart_274 rfl rfl
theorem x203_275 : Ev L xs ρ 203 275 [l0, l1, l2, l3, l4] (.ref a :: st) (n, I, Lm, Rm) r ↔ (a < n ∧ shp a = (0, 11)) ∧ Ev L xs ρ 203 278 [l0, l1, l2, l3, l4] (rfv (Rm a 39) :: st) (n, I, Lm, Rm) r := ev_gtR cm_203 dX11_onePart_275 rfl rfl
theorem x203_278 : Ev L xs 4 203 278 [l0, l1, l2, l3, l4] (.ref b :: .ref a :: []) (n, I, Lm, Rm) r ↔ (a < n ∧ shp a = (0, 11)) ∧ ∃ v n2 I2 L2 R2, Em L xs 175 [.ref a, .ref b] (n, I, Lm, Rm) (v, n2, I2, L2, R2) ∧ Ev L xs 4 203 281 [l0, l1, l2, l3, l4] (v.toList ++ []) (n2, I2, L2, R2) r := ev_cV cm_203 [.ref b] dX11_onePart_278 rfl rfl rfl rfl (Nat.le_of_ble_eq_true rfl) (rka_lt rfl (by decide)) (Nat.le_of_ble_eq_true rfl)
theorem x203_281 : Ev L xs ρ 203 281 [l0, l1, l2, l3, l4] (.int x :: st) σ r ↔ if x = 0 then Ev L xs ρ 203 289 [l0, l1, l2, l3, l4] st σ r else Ev L xs ρ 203 284 [l0, l1, l2, l3, l4] st σ r := ev_ifeq cm_203 dX11_onePart_281 (by decide)
theorem x203_284 : Ev L xs ρ 203 284 [l0, l1, l2, l3, l4] st σ r ↔ Ev L xs ρ 203 286 [l0, l1, l2, l3, l4] (.int (32) :: st) σ r := ev_bipush cm_203 dX11_onePart_284 (by decide)
theorem x203_286 : Ev L xs ρ 203 286 [l0, l1, l2, l3, l4] st σ r ↔ Ev L xs ρ 203 290 [l0, l1, l2, l3, l4] st σ r := ev_goto cm_203 dX11_onePart_286 (by decide)
theorem x203_289 : Ev L xs ρ 203 289 [l0, l1, l2, l3, l4] st σ r ↔ Ev L xs ρ 203 290 [l0, l1, l2, l3, l4] (.int (-1) :: st) σ r := ev_iconst cm_203 dX11_onePart_289 (by decide)
theorem x203_290 : Ev L xs ρ 203 290 [l0, l1, l2, l3, l4] (.int x :: st) σ r ↔ Ev L xs ρ 203 291 [l0, l1, some (.int x), l3, l4] st σ r := ev_istore_n cm_203 dX11_onePart_290 rfl (Nat.le_of_ble_eq_true rfl)
theorem x203_291 : Ev L xs ρ 203 291 [some (.ref a), l1, l2, l3, l4] st σ r ↔ Ev L xs ρ 203 292 [some (.ref a), l1, l2, l3, l4] (.ref a :: st) σ r := ev_aload_n cm_203 dX11_onePart_291 rfl rfl
theorem x203_292 : Ev L xs ρ 203 292 [l0, l1, some (.int x), l3, l4] st σ r ↔ Ev L xs ρ 203 293 [l0, l1, some (.int x), l3, l4] (.int x :: st) σ r := ev_iload_n cm_203 dX11_onePart_292 rfl rfl
theorem x203_293 : Ev L xs ρ 203 293 [l0, l1, l2, l3, l4] st σ r ↔ Ev L xs ρ 203 294 [l0, l1, l2, l3, l4] (.int (-1) :: st) σ r := ev_iconst cm_203 dX11_onePart_293 (by decide)
theorem x203_294 : Ev L xs ρ 203 294 [l0, l1, l2, l3, l4] (.int y :: .int x :: st) σ r ↔ if x = y then Ev L xs ρ 203 301 [l0, l1, l2, l3, l4] st σ r else Ev L xs ρ 203 297 [l0, l1, l2, l3, l4] st σ r := ev_iceq cm_203 dX11_onePart_294 (by decide)
theorem x203_297 : Ev L xs ρ 203 297 [l0, l1, some (.int x), l3, l4] st σ r ↔ Ev L xs ρ 203 298 [l0, l1, some (.int x), l3, l4] (.int x :: st) σ r := ev_iload_n cm_203 dX11_onePart_297 rfl rfl
theorem x203_298 : Ev L xs ρ 203 298 [l0, l1, l2, l3, l4] st σ r ↔ Ev L xs ρ 203 313 [l0, l1, l2, l3, l4] st σ r := ev_goto cm_203 dX11_onePart_298 (by decide)
theorem x203_301 : Ev L xs ρ 203 301 [l0, l1, l2, l3, l4] st σ r ↔ Ev L xs ρ 203 304 [l0, l1, l2, l3, l4] (.int (1000) :: st) σ r := ev_sipush cm_203 dX11_onePart_301 (by decide)
theorem x203_304 : Ev L xs ρ 203 304 [some (.ref a), l1, l2, l3, l4] st σ r ↔ Ev L xs ρ 203 305 [some (.ref a), l1, l2, l3, l4] (.ref a :: st) σ r := ev_aload_n cm_203 dX11_onePart_304 rfl rfl
theorem x203_305 : Ev L xs ρ 203 305 [l0, l1, l2, l3, l4] st σ r ↔ Ev L xs ρ 203 306 [l0, l1, l2, l3, l4] (.int (0) :: st) σ r := ev_iconst cm_203 dX11_onePart_305 (by decide)
theorem x203_306 : Ev L xs ρ 203 306 [l0, l1, l2, l3, l4] st σ r ↔ Ev L xs ρ 203 309 [l0, l1, l2, l3, l4] (.int (9999) :: st) σ r := ev_sipush cm_203 dX11_onePart_306 (by decide)
theorem x203_309 : Ev L xs 4 203 309 [l0, l1, l2, l3, l4] (.int z :: .int y :: .ref b :: .int x :: .ref a :: []) (n, I, Lm, Rm) r ↔ (b < n ∧ shp b = (0, 11)) ∧ ∃ v n2 I2 L2 R2, Em L xs 179 [.ref b, .int y, .int z] (n, I, Lm, Rm) (v, n2, I2, L2, R2) ∧ Ev L xs 4 203 312 [l0, l1, l2, l3, l4] (v.toList ++ (.int x :: .ref a :: [])) (n2, I2, L2, R2) r := ev_cV cm_203 [.int y, .int z] dX11_onePart_309 rfl rfl rfl rfl (Nat.le_of_ble_eq_true rfl) (rka_lt rfl (by decide)) (Nat.le_of_ble_eq_true rfl)
theorem x203_312 : Ev L xs ρ 203 312 [l0, l1, l2, l3, l4] (.int y :: .int x :: st) σ r ↔ Ev L xs ρ 203 313 [l0, l1, l2, l3, l4] (.int (x + y) :: st) σ r := ev_nx (ev_ex cm_203 dX11_onePart_312 rfl rfl)
theorem x203_313 : Ev L xs 4 203 313 [l0, l1, l2, l3, l4] (.int x :: .ref a :: []) (n, I, Lm, Rm) r ↔ (a < n ∧ shp a = (0, 11)) ∧ ∃ v n2 I2 L2 R2, Em L xs 196 [.ref a, .int x] (n, I, Lm, Rm) (v, n2, I2, L2, R2) ∧ Ev L xs 4 203 316 [l0, l1, l2, l3, l4] (v.toList ++ []) (n2, I2, L2, R2) r := ev_cV cm_203 [.int x] dX11_onePart_313 rfl rfl rfl rfl (Nat.le_of_ble_eq_true rfl) (rka_lt rfl (by decide)) (Nat.le_of_ble_eq_true rfl)
theorem x203_316 : Ev L xs ρ 203 316 [l0, l1, l2, l3, l4] [] σ r ↔ r = (none, σ) := ev_retv cm_203 dX11_onePart_316 rfl
theorem cm_204 : mcd 204 = cX11_goesOn := rfl
theorem em_204 : Em L xs 204 [.ref a] σ r ↔ Ev L xs 3 204 0 [some (.ref a), none] [] σ r := Iff.rfl
theorem x204_0 : Ev L xs ρ 204 0 [some (.ref a), l1] st σ r ↔ Ev L xs ρ 204 1 [some (.ref a), l1] (.ref a :: st) σ r := ev_aload_n cm_204 dX11_goesOn_0 rfl rfl
theorem x204_1 : Ev L xs ρ 204 1 [l0, l1] (.ref a :: st) (n, I, Lm, Rm) r ↔ (a < n ∧ shp a = (0, 11)) ∧ Ev L xs ρ 204 4 [l0, l1] (.int (I a 5) :: st) (n, I, Lm, Rm) r := ev_gtI cm_204 dX11_goesOn_1 rfl rfl
theorem x204_4 : Ev L xs ρ 204 4 [l0, l1] (.int x :: st) σ r ↔ if x = 0 then Ev L xs ρ 204 7 [l0, l1] st σ r else Ev L xs ρ 204 118 [l0, l1] st σ r := ev_ifne cm_204 dX11_goesOn_4 (by decide)
theorem x204_7 : Ev L xs ρ 204 7 [some (.ref a), l1] st σ r ↔ Ev L xs ρ 204 8 [some (.ref a), l1] (.ref a :: st) σ r := ev_aload_n cm_204 dX11_goesOn_7 rfl rfl
theorem x204_8 : Ev L xs 3 204 8 [l0, l1] (.ref a :: []) (n, I, Lm, Rm) r ↔ (a < n ∧ shp a = (0, 11)) ∧ ∃ v n2 I2 L2 R2, Em L xs 173 [.ref a] (n, I, Lm, Rm) (v, n2, I2, L2, R2) ∧ Ev L xs 3 204 11 [l0, l1] (v.toList ++ []) (n2, I2, L2, R2) r := ev_cV cm_204 [] dX11_goesOn_8 rfl rfl rfl rfl (Nat.le_of_ble_eq_true rfl) (rka_lt rfl (by decide)) (Nat.le_of_ble_eq_true rfl)
theorem x204_11 : Ev L xs ρ 204 11 [l0, l1] st σ r ↔ Ev L xs ρ 204 13 [l0, l1] (.int (41) :: st) σ r := ev_bipush cm_204 dX11_goesOn_11 (by decide)
theorem x204_13 : Ev L xs ρ 204 13 [l0, l1] (.int y :: .int x :: st) σ r ↔ if x = y then Ev L xs ρ 204 16 [l0, l1] st σ r else Ev L xs ρ 204 118 [l0, l1] st σ r := ev_icne cm_204 dX11_goesOn_13 (by decide)
theorem x204_16 : Ev L xs ρ 204 16 [some (.ref a), l1] st σ r ↔ Ev L xs ρ 204 17 [some (.ref a), l1] (.ref a :: st) σ r := ev_aload_n cm_204 dX11_goesOn_16 rfl rfl
theorem x204_17 : Ev L xs 3 204 17 [l0, l1] (.ref a :: []) (n, I, Lm, Rm) r ↔ (a < n ∧ shp a = (0, 11)) ∧ ∃ v n2 I2 L2 R2, Em L xs 201 [.ref a] (n, I, Lm, Rm) (v, n2, I2, L2, R2) ∧ Ev L xs 3 204 20 [l0, l1] (v.toList ++ []) (n2, I2, L2, R2) r := ev_cV cm_204 [] dX11_goesOn_17 rfl rfl rfl rfl (Nat.le_of_ble_eq_true rfl) (rka_lt rfl (by decide)) (Nat.le_of_ble_eq_true rfl)
theorem x204_20 : Ev L xs ρ 204 20 [l0, l1] st σ r ↔ Ev L xs ρ 204 22 [l0, l1] (.int (20) :: st) σ r := ev_bipush cm_204 dX11_goesOn_20 (by decide)
theorem x204_22 : Ev L xs ρ 204 22 [l0, l1] (.int y :: .int x :: st) σ r ↔ if x = y then Ev L xs ρ 204 43 [l0, l1] st σ r else Ev L xs ρ 204 25 [l0, l1] st σ r := ev_iceq cm_204 dX11_goesOn_22 (by decide)
theorem x204_25 : Ev L xs ρ 204 25 [some (.ref a), l1] st σ r ↔ Ev L xs ρ 204 26 [some (.ref a), l1] (.ref a :: st) σ r := ev_aload_n cm_204 dX11_goesOn_25 rfl rfl
theorem x204_26 : Ev L xs 3 204 26 [l0, l1] (.ref a :: []) (n, I, Lm, Rm) r ↔ (a < n ∧ shp a = (0, 11)) ∧ ∃ v n2 I2 L2 R2, Em L xs 201 [.ref a] (n, I, Lm, Rm) (v, n2, I2, L2, R2) ∧ Ev L xs 3 204 29 [l0, l1] (v.toList ++ []) (n2, I2, L2, R2) r := ev_cV cm_204 [] dX11_goesOn_26 rfl rfl rfl rfl (Nat.le_of_ble_eq_true rfl) (rka_lt rfl (by decide)) (Nat.le_of_ble_eq_true rfl)
theorem x204_29 : Ev L xs ρ 204 29 [l0, l1] st σ r ↔ Ev L xs ρ 204 31 [l0, l1] (.int (23) :: st) σ r := ev_bipush cm_204 dX11_goesOn_29 (by decide)
theorem x204_31 : Ev L xs ρ 204 31 [l0, l1] (.int y :: .int x :: st) σ r ↔ if x = y then Ev L xs ρ 204 43 [l0, l1] st σ r else Ev L xs ρ 204 34 [l0, l1] st σ r := ev_iceq cm_204 dX11_goesOn_31 (by decide)
theorem x204_34 : Ev L xs ρ 204 34 [some (.ref a), l1] st σ r ↔ Ev L xs ρ 204 35 [some (.ref a), l1] (.ref a :: st) σ r := ev_aload_n cm_204 dX11_goesOn_34 rfl rfl
theorem x204_35 : Ev L xs 3 204 35 [l0, l1] (.ref a :: []) (n, I, Lm, Rm) r ↔ (a < n ∧ shp a = (0, 11)) ∧ ∃ v n2 I2 L2 R2, Em L xs 201 [.ref a] (n, I, Lm, Rm) (v, n2, I2, L2, R2) ∧ Ev L xs 3 204 38 [l0, l1] (v.toList ++ []) (n2, I2, L2, R2) r := ev_cV cm_204 [] dX11_goesOn_35 rfl rfl rfl rfl (Nat.le_of_ble_eq_true rfl) (rka_lt rfl (by decide)) (Nat.le_of_ble_eq_true rfl)
theorem x204_38 : Ev L xs ρ 204 38 [l0, l1] st σ r ↔ Ev L xs ρ 204 40 [l0, l1] (.int (24) :: st) σ r := ev_bipush cm_204 dX11_goesOn_38 (by decide)
theorem x204_40 : Ev L xs ρ 204 40 [l0, l1] (.int y :: .int x :: st) σ r ↔ if x = y then Ev L xs ρ 204 43 [l0, l1] st σ r else Ev L xs ρ 204 118 [l0, l1] st σ r := ev_icne cm_204 dX11_goesOn_40 (by decide)
theorem x204_43 : Ev L xs ρ 204 43 [some (.ref a), l1] st σ r ↔ Ev L xs ρ 204 44 [some (.ref a), l1] (.ref a :: st) σ r := ev_aload_n cm_204 dX11_goesOn_43 rfl rfl
theorem x204_44 : Ev L xs ρ 204 44 [l0, l1] (.ref a :: st) σ r ↔ Ev L xs ρ 204 45 [l0, l1] (.ref a :: .ref a :: st) σ r := ev_nx (ev_ex cm_204 dX11_goesOn_44 rfl rfl)
theorem x204_45 : Ev L xs ρ 204 45 [l0, l1] (.ref a :: st) (n, I, Lm, Rm) r ↔ (a < n ∧ shp a = (0, 11)) ∧ Ev L xs ρ 204 48 [l0, l1] (.int (I a 2) :: st) (n, I, Lm, Rm) r := ev_gtI cm_204 dX11_goesOn_45 rfl rfl
theorem x204_48 : Ev L xs ρ 204 48 [l0, l1] st σ r ↔ Ev L xs ρ 204 49 [l0, l1] (.int (1) :: st) σ r := ev_iconst cm_204 dX11_goesOn_48 (by decide)
theorem x204_49 : Ev L xs ρ 204 49 [l0, l1] (.int y :: .int x :: st) σ r ↔ Ev L xs ρ 204 50 [l0, l1] (.int (x + y) :: st) σ r := ev_nx (ev_ex cm_204 dX11_goesOn_49 rfl rfl)
theorem x204_50 : Ev L xs ρ 204 50 [l0, l1] (.int x :: .ref a :: st) (n, I, Lm, Rm) r ↔ (a < n ∧ shp a = (0, 11)) ∧ Ev L xs ρ 204 53 [l0, l1] st (n, up2 I a 2 x, Lm, Rm) r := ev_ptI cm_204 dX11_goesOn_50 rfl rfl (Or.inl rfl)
theorem x204_53 : Ev L xs ρ 204 53 [some (.ref a), l1] st σ r ↔ Ev L xs ρ 204 54 [some (.ref a), l1] (.ref a :: st) σ r := ev_aload_n cm_204 dX11_goesOn_53 rfl rfl
theorem x204_54 : Ev L xs 3 204 54 [l0, l1] (.ref a :: []) (n, I, Lm, Rm) r ↔ (a < n ∧ shp a = (0, 11)) ∧ ∃ v n2 I2 L2 R2, Em L xs 202 [.ref a] (n, I, Lm, Rm) (v, n2, I2, L2, R2) ∧ Ev L xs 3 204 57 [l0, l1] (v.toList ++ []) (n2, I2, L2, R2) r := ev_cV cm_204 [] dX11_goesOn_54 rfl rfl rfl rfl (Nat.le_of_ble_eq_true rfl) (rka_lt rfl (by decide)) (Nat.le_of_ble_eq_true rfl)
theorem x204_57 : Ev L xs ρ 204 57 [some (.ref a), l1] st σ r ↔ Ev L xs ρ 204 58 [some (.ref a), l1] (.ref a :: st) σ r := ev_aload_n cm_204 dX11_goesOn_57 rfl rfl
theorem x204_58 : Ev L xs ρ 204 58 [l0, l1] (.ref a :: st) σ r ↔ Ev L xs ρ 204 59 [l0, l1] (.ref a :: .ref a :: st) σ r := ev_nx (ev_ex cm_204 dX11_goesOn_58 rfl rfl)
theorem x204_59 : Ev L xs ρ 204 59 [l0, l1] (.ref a :: st) (n, I, Lm, Rm) r ↔ (a < n ∧ shp a = (0, 11)) ∧ Ev L xs ρ 204 62 [l0, l1] (.int (I a 58) :: st) (n, I, Lm, Rm) r := ev_gtI cm_204 dX11_goesOn_59 rfl rfl
theorem x204_62 : Ev L xs ρ 204 62 [l0, l1] st σ r ↔ Ev L xs ρ 204 63 [l0, l1] (.int (1) :: st) σ r := ev_iconst cm_204 dX11_goesOn_62 (by decide)
theorem x204_63 : Ev L xs ρ 204 63 [l0, l1] (.int y :: .int x :: st) σ r ↔ Ev L xs ρ 204 64 [l0, l1] (.int (x - y) :: st) σ r := ev_nx (ev_ex cm_204 dX11_goesOn_63 rfl rfl)
theorem x204_64 : Ev L xs ρ 204 64 [l0, l1] (.int x :: .ref a :: st) (n, I, Lm, Rm) r ↔ (a < n ∧ shp a = (0, 11)) ∧ Ev L xs ρ 204 67 [l0, l1] st (n, up2 I a 58 x, Lm, Rm) r := ev_ptI cm_204 dX11_goesOn_64 rfl rfl (Or.inl rfl)
theorem x204_67 : Ev L xs ρ 204 67 [some (.ref a), l1] st σ r ↔ Ev L xs ρ 204 68 [some (.ref a), l1] (.ref a :: st) σ r := ev_aload_n cm_204 dX11_goesOn_67 rfl rfl
theorem x204_68 : Ev L xs ρ 204 68 [l0, l1] (.ref a :: st) σ r ↔ Ev L xs ρ 204 69 [l0, l1] (.ref a :: .ref a :: st) σ r := ev_nx (ev_ex cm_204 dX11_goesOn_68 rfl rfl)
theorem x204_69 : Ev L xs ρ 204 69 [l0, l1] (.ref a :: st) (n, I, Lm, Rm) r ↔ (a < n ∧ shp a = (0, 11)) ∧ Ev L xs ρ 204 72 [l0, l1] (.int (I a 59) :: st) (n, I, Lm, Rm) r := ev_gtI cm_204 dX11_goesOn_69 rfl rfl
theorem x204_72 : Ev L xs ρ 204 72 [l0, l1] st σ r ↔ Ev L xs ρ 204 73 [l0, l1] (.int (1) :: st) σ r := ev_iconst cm_204 dX11_goesOn_72 (by decide)
theorem x204_73 : Ev L xs ρ 204 73 [l0, l1] (.int y :: .int x :: st) σ r ↔ Ev L xs ρ 204 74 [l0, l1] (.int (x - y) :: st) σ r := ev_nx (ev_ex cm_204 dX11_goesOn_73 rfl rfl)
theorem x204_74 : Ev L xs ρ 204 74 [l0, l1] (.int x :: .ref a :: st) (n, I, Lm, Rm) r ↔ (a < n ∧ shp a = (0, 11)) ∧ Ev L xs ρ 204 77 [l0, l1] st (n, up2 I a 59 x, Lm, Rm) r := ev_ptI cm_204 dX11_goesOn_74 rfl rfl (Or.inl rfl)
theorem x204_77 : Ev L xs ρ 204 77 [some (.ref a), l1] st σ r ↔ Ev L xs ρ 204 78 [some (.ref a), l1] (.ref a :: st) σ r := ev_aload_n cm_204 dX11_goesOn_77 rfl rfl
theorem x204_78 : Ev L xs ρ 204 78 [l0, l1] (.ref a :: st) (n, I, Lm, Rm) r ↔ (a < n ∧ shp a = (0, 11)) ∧ Ev L xs ρ 204 81 [l0, l1] (rfv (Rm a 57) :: st) (n, I, Lm, Rm) r := ev_gtR cm_204 dX11_goesOn_78 rfl rfl
theorem x204_81 : Ev L xs ρ 204 81 [some (.ref a), l1] st σ r ↔ Ev L xs ρ 204 82 [some (.ref a), l1] (.ref a :: st) σ r := ev_aload_n cm_204 dX11_goesOn_81 rfl rfl
theorem x204_82 : Ev L xs ρ 204 82 [l0, l1] (.ref a :: st) (n, I, Lm, Rm) r ↔ (a < n ∧ shp a = (0, 11)) ∧ Ev L xs ρ 204 85 [l0, l1] (.int (I a 58) :: st) (n, I, Lm, Rm) r := ev_gtI cm_204 dX11_goesOn_82 rfl rfl
theorem x204_85 : Ev L xs ρ 204 85 [l0, l1] (.int x :: .ref a :: st) (n, I, Lm, Rm) r ↔ ((a < n ∧ (shp a).1 = 1) ∧ inb x (shp a).2) ∧ Ev L xs ρ 204 86 [l0, l1] (.int (I a (ixn x)) :: st) (n, I, Lm, Rm) r := ev_iald cm_204 dX11_goesOn_85 (by decide)
theorem x204_86 : Ev L xs ρ 204 86 [l0, l1] st σ r ↔ Ev L xs ρ 204 88 [l0, l1] (.int (20) :: st) σ r := ev_bipush cm_204 dX11_goesOn_86 (by decide)
theorem x204_88 : Ev L xs ρ 204 88 [l0, l1] (.int y :: .int x :: st) σ r ↔ if x = y then Ev L xs ρ 204 0 [l0, l1] st σ r else Ev L xs ρ 204 91 [l0, l1] st σ r := ev_iceq cm_204 dX11_goesOn_88 (by decide)
theorem x204_91 : Ev L xs ρ 204 91 [some (.ref a), l1] st σ r ↔ Ev L xs ρ 204 92 [some (.ref a), l1] (.ref a :: st) σ r := ev_aload_n cm_204 dX11_goesOn_91 rfl rfl
theorem x204_92 : Ev L xs ρ 204 92 [some (.ref a), l1] st σ r ↔ Ev L xs ρ 204 93 [some (.ref a), l1] (.ref a :: st) σ r := ev_aload_n cm_204 dX11_goesOn_92 rfl rfl
theorem x204_93 : Ev L xs ρ 204 93 [l0, l1] (.ref a :: st) (n, I, Lm, Rm) r ↔ (a < n ∧ shp a = (0, 11)) ∧ Ev L xs ρ 204 96 [l0, l1] (rfv (Rm a 57) :: st) (n, I, Lm, Rm) r := ev_gtR cm_204 dX11_goesOn_93 rfl rfl
theorem x204_96 : Ev L xs ρ 204 96 [some (.ref a), l1] st σ r ↔ Ev L xs ρ 204 97 [some (.ref a), l1] (.ref a :: st) σ r := ev_aload_n cm_204 dX11_goesOn_96 rfl rfl
theorem x204_97 : Ev L xs ρ 204 97 [l0, l1] (.ref a :: st) (n, I, Lm, Rm) r ↔ (a < n ∧ shp a = (0, 11)) ∧ Ev L xs ρ 204 100 [l0, l1] (.int (I a 58) :: st) (n, I, Lm, Rm) r := ev_gtI cm_204 dX11_goesOn_97 rfl rfl
theorem x204_100 : Ev L xs ρ 204 100 [l0, l1] (.int x :: .ref a :: st) (n, I, Lm, Rm) r ↔ ((a < n ∧ (shp a).1 = 1) ∧ inb x (shp a).2) ∧ Ev L xs ρ 204 101 [l0, l1] (.int (I a (ixn x)) :: st) (n, I, Lm, Rm) r := ev_iald cm_204 dX11_goesOn_100 (by decide)
theorem x204_101 : Ev L xs ρ 204 101 [l0, l1] st σ r ↔ Ev L xs ρ 204 103 [l0, l1] (.int (23) :: st) σ r := ev_bipush cm_204 dX11_goesOn_101 (by decide)
theorem x204_103 : Ev L xs ρ 204 103 [l0, l1] (.int y :: .int x :: st) σ r ↔ if x = y then Ev L xs ρ 204 106 [l0, l1] st σ r else Ev L xs ρ 204 110 [l0, l1] st σ r := ev_icne cm_204 dX11_goesOn_103 (by decide)
theorem x204_106 : Ev L xs ρ 204 106 [l0, l1] st σ r ↔ Ev L xs ρ 204 107 [l0, l1] (.int (5) :: st) σ r := ev_iconst cm_204 dX11_goesOn_106 (by decide)
theorem x204_107 : Ev L xs ρ 204 107 [l0, l1] st σ r ↔ Ev L xs ρ 204 112 [l0, l1] st σ r := ev_goto cm_204 dX11_goesOn_107 (by decide)
theorem x204_110 : Ev L xs ρ 204 110 [l0, l1] st σ r ↔ Ev L xs ρ 204 112 [l0, l1] (.int (6) :: st) σ r := ev_bipush cm_204 dX11_goesOn_110 (by decide)
theorem x204_112 : Ev L xs 3 204 112 [l0, l1] (.int x :: .ref a :: []) (n, I, Lm, Rm) r ↔ (a < n ∧ shp a = (0, 11)) ∧ ∃ v n2 I2 L2 R2, Em L xs 196 [.ref a, .int x] (n, I, Lm, Rm) (v, n2, I2, L2, R2) ∧ Ev L xs 3 204 115 [l0, l1] (v.toList ++ []) (n2, I2, L2, R2) r := ev_cV cm_204 [.int x] dX11_goesOn_112 rfl rfl rfl rfl (Nat.le_of_ble_eq_true rfl) (rka_lt rfl (by decide)) (Nat.le_of_ble_eq_true rfl)
theorem x204_115 : Ev L xs ρ 204 115 [l0, l1] st σ r ↔ Ev L xs ρ 204 0 [l0, l1] st σ r := ev_goto cm_204 dX11_goesOn_115 (by decide)
theorem x204_118 : Ev L xs ρ 204 118 [some (.ref a), l1] st σ r ↔ Ev L xs ρ 204 119 [some (.ref a), l1] (.ref a :: st) σ r := ev_aload_n cm_204 dX11_goesOn_118 rfl rfl
theorem x204_119 : Ev L xs ρ 204 119 [l0, l1] st σ r ↔ Ev L xs ρ 204 121 [l0, l1] (.int (42) :: st) σ r := ev_bipush cm_204 dX11_goesOn_119 (by decide)
theorem x204_121 : Ev L xs 3 204 121 [l0, l1] (.int x :: .ref a :: []) (n, I, Lm, Rm) r ↔ (a < n ∧ shp a = (0, 11)) ∧ ∃ v n2 I2 L2 R2, Em L xs 177 [.ref a, .int x] (n, I, Lm, Rm) (v, n2, I2, L2, R2) ∧ Ev L xs 3 204 124 [l0, l1] (v.toList ++ []) (n2, I2, L2, R2) r := ev_cV cm_204 [.int x] dX11_goesOn_121 rfl rfl rfl rfl (Nat.le_of_ble_eq_true rfl) (rka_lt rfl (by decide)) (Nat.le_of_ble_eq_true rfl)
theorem x204_124 : Ev L xs ρ 204 124 [l0, l1] (.int x :: st) σ r ↔ if x = 0 then Ev L xs ρ 204 127 [l0, l1] st σ r else Ev L xs ρ 204 136 [l0, l1] st σ r := ev_ifne cm_204 dX11_goesOn_124 (by decide)
theorem x204_127 : Ev L xs ρ 204 127 [some (.ref a), l1] st σ r ↔ Ev L xs ρ 204 128 [some (.ref a), l1] (.ref a :: st) σ r := ev_aload_n cm_204 dX11_goesOn_127 rfl rfl
theorem x204_128 : Ev L xs ρ 204 128 [l0, l1] st σ r ↔ Ev L xs ρ 204 130 [l0, l1] (.int (47) :: st) σ r := ev_bipush cm_204 dX11_goesOn_128 (by decide)
theorem x204_130 : Ev L xs 3 204 130 [l0, l1] (.int x :: .ref a :: []) (n, I, Lm, Rm) r ↔ (a < n ∧ shp a = (0, 11)) ∧ ∃ v n2 I2 L2 R2, Em L xs 177 [.ref a, .int x] (n, I, Lm, Rm) (v, n2, I2, L2, R2) ∧ Ev L xs 3 204 133 [l0, l1] (v.toList ++ []) (n2, I2, L2, R2) r := ev_cV cm_204 [.int x] dX11_goesOn_130 rfl rfl rfl rfl (Nat.le_of_ble_eq_true rfl) (rka_lt rfl (by decide)) (Nat.le_of_ble_eq_true rfl)
theorem x204_133 : Ev L xs ρ 204 133 [l0, l1] (.int x :: st) σ r ↔ if x = 0 then Ev L xs ρ 204 203 [l0, l1] st σ r else Ev L xs ρ 204 136 [l0, l1] st σ r := ev_ifeq cm_204 dX11_goesOn_133 (by decide)
theorem x204_136 : Ev L xs ρ 204 136 [some (.ref a), l1] st σ r ↔ Ev L xs ρ 204 137 [some (.ref a), l1] (.ref a :: st) σ r := ev_aload_n cm_204 dX11_goesOn_136 rfl rfl
theorem x204_137 : Ev L xs ρ 204 137 [l0, l1] (.ref a :: st) (n, I, Lm, Rm) r ↔ (a < n ∧ shp a = (0, 11)) ∧ Ev L xs ρ 204 140 [l0, l1] (rfv (Rm a 0) :: st) (n, I, Lm, Rm) r := ev_gtR cm_204 dX11_goesOn_137 rfl rfl
theorem x204_140 : Ev L xs ρ 204 140 [some (.ref a), l1] st σ r ↔ Ev L xs ρ 204 141 [some (.ref a), l1] (.ref a :: st) σ r := ev_aload_n cm_204 dX11_goesOn_140 rfl rfl
theorem x204_141 : Ev L xs ρ 204 141 [l0, l1] (.ref a :: st) (n, I, Lm, Rm) r ↔ (a < n ∧ shp a = (0, 11)) ∧ Ev L xs ρ 204 144 [l0, l1] (.int (I a 2) :: st) (n, I, Lm, Rm) r := ev_gtI cm_204 dX11_goesOn_141 rfl rfl
theorem x204_144 : Ev L xs ρ 204 144 [l0, l1] st σ r ↔ Ev L xs ρ 204 145 [l0, l1] (.int (1) :: st) σ r := ev_iconst cm_204 dX11_goesOn_144 (by decide)
theorem x204_145 : Ev L xs ρ 204 145 [l0, l1] (.int y :: .int x :: st) σ r ↔ Ev L xs ρ 204 146 [l0, l1] (.int (x - y) :: st) σ r := ev_nx (ev_ex cm_204 dX11_goesOn_145 rfl rfl)
theorem x204_146 : Ev L xs ρ 204 146 [l0, l1] (.int x :: .ref a :: st) (n, I, Lm, Rm) r ↔ ((a < n ∧ (shp a).1 = 1) ∧ inb x (shp a).2) ∧ Ev L xs ρ 204 147 [l0, l1] (.int (I a (ixn x)) :: st) (n, I, Lm, Rm) r := ev_iald cm_204 dX11_goesOn_146 (by decide)
theorem x204_147 : Ev L xs ρ 204 147 [l0, l1] st σ r ↔ Ev L xs ρ 204 149 [l0, l1] (.int (42) :: st) σ r := ev_bipush cm_204 dX11_goesOn_147 (by decide)
theorem x204_149 : Ev L xs ρ 204 149 [l0, l1] (.int y :: .int x :: st) σ r ↔ if x = y then Ev L xs ρ 204 152 [l0, l1] st σ r else Ev L xs ρ 204 156 [l0, l1] st σ r := ev_icne cm_204 dX11_goesOn_149 (by decide)
theorem x204_152 : Ev L xs ρ 204 152 [l0, l1] st σ r ↔ Ev L xs ρ 204 153 [l0, l1] (.int (3) :: st) σ r := ev_iconst cm_204 dX11_goesOn_152 (by decide)
theorem x204_153 : Ev L xs ρ 204 153 [l0, l1] st σ r ↔ Ev L xs ρ 204 157 [l0, l1] st σ r := ev_goto cm_204 dX11_goesOn_153 (by decide)
theorem x204_156 : Ev L xs ρ 204 156 [l0, l1] st σ r ↔ Ev L xs ρ 204 157 [l0, l1] (.int (4) :: st) σ r := ev_iconst cm_204 dX11_goesOn_156 (by decide)
theorem x204_157 : Ev L xs ρ 204 157 [l0, l1] (.int x :: st) σ r ↔ Ev L xs ρ 204 158 [l0, some (.int x)] st σ r := ev_istore_n cm_204 dX11_goesOn_157 rfl (Nat.le_of_ble_eq_true rfl)
theorem x204_158 : Ev L xs ρ 204 158 [some (.ref a), l1] st σ r ↔ Ev L xs ρ 204 159 [some (.ref a), l1] (.ref a :: st) σ r := ev_aload_n cm_204 dX11_goesOn_158 rfl rfl
theorem x204_159 : Ev L xs ρ 204 159 [l0, l1] st σ r ↔ Ev L xs ρ 204 160 [l0, l1] (.int (3) :: st) σ r := ev_iconst cm_204 dX11_goesOn_159 (by decide)
theorem x204_160 : Ev L xs 3 204 160 [l0, l1] (.int x :: .ref a :: []) (n, I, Lm, Rm) r ↔ (a < n ∧ shp a = (0, 11)) ∧ ∃ v n2 I2 L2 R2, Em L xs 198 [.ref a, .int x] (n, I, Lm, Rm) (v, n2, I2, L2, R2) ∧ Ev L xs 3 204 163 [l0, l1] (v.toList ++ []) (n2, I2, L2, R2) r := ev_cV cm_204 [.int x] dX11_goesOn_160 rfl rfl rfl rfl (Nat.le_of_ble_eq_true rfl) (rka_lt rfl (by decide)) (Nat.le_of_ble_eq_true rfl)
theorem x204_163 : Ev L xs ρ 204 163 [l0, l1] (.int x :: st) σ r ↔ if x = 0 then Ev L xs ρ 204 166 [l0, l1] st σ r else Ev L xs ρ 204 174 [l0, l1] st σ r := ev_ifne cm_204 dX11_goesOn_163 (by decide)
theorem x204_166 : Ev L xs ρ 204 166 [some (.ref a), l1] st σ r ↔ Ev L xs ρ 204 167 [some (.ref a), l1] (.ref a :: st) σ r := ev_aload_n cm_204 dX11_goesOn_166 rfl rfl
theorem x204_167 : Ev L xs ρ 204 167 [l0, l1] st σ r ↔ Ev L xs ρ 204 168 [l0, l1] (.int (4) :: st) σ r := ev_iconst cm_204 dX11_goesOn_167 (by decide)
theorem x204_168 : Ev L xs 3 204 168 [l0, l1] (.int x :: .ref a :: []) (n, I, Lm, Rm) r ↔ (a < n ∧ shp a = (0, 11)) ∧ ∃ v n2 I2 L2 R2, Em L xs 198 [.ref a, .int x] (n, I, Lm, Rm) (v, n2, I2, L2, R2) ∧ Ev L xs 3 204 171 [l0, l1] (v.toList ++ []) (n2, I2, L2, R2) r := ev_cV cm_204 [.int x] dX11_goesOn_168 rfl rfl rfl rfl (Nat.le_of_ble_eq_true rfl) (rka_lt rfl (by decide)) (Nat.le_of_ble_eq_true rfl)
theorem x204_171 : Ev L xs ρ 204 171 [l0, l1] (.int x :: st) σ r ↔ if x = 0 then Ev L xs ρ 204 181 [l0, l1] st σ r else Ev L xs ρ 204 174 [l0, l1] st σ r := ev_ifeq cm_204 dX11_goesOn_171 (by decide)
theorem x204_174 : Ev L xs ρ 204 174 [some (.ref a), l1] st σ r ↔ Ev L xs ρ 204 175 [some (.ref a), l1] (.ref a :: st) σ r := ev_aload_n cm_204 dX11_goesOn_174 rfl rfl
theorem x204_175 : Ev L xs 3 204 175 [l0, l1] (.ref a :: []) (n, I, Lm, Rm) r ↔ (a < n ∧ shp a = (0, 11)) ∧ ∃ v n2 I2 L2 R2, Em L xs 199 [.ref a] (n, I, Lm, Rm) (v, n2, I2, L2, R2) ∧ Ev L xs 3 204 178 [l0, l1] (v.toList ++ []) (n2, I2, L2, R2) r := ev_cV cm_204 [] dX11_goesOn_175 rfl rfl rfl rfl (Nat.le_of_ble_eq_true rfl) (rka_lt rfl (by decide)) (Nat.le_of_ble_eq_true rfl)
theorem x204_178 : Ev L xs ρ 204 178 [l0, l1] st σ r ↔ Ev L xs ρ 204 158 [l0, l1] st σ r := ev_goto cm_204 dX11_goesOn_178 (by decide)
theorem x204_181 : Ev L xs ρ 204 181 [some (.ref a), l1] st σ r ↔ Ev L xs ρ 204 182 [some (.ref a), l1] (.ref a :: st) σ r := ev_aload_n cm_204 dX11_goesOn_181 rfl rfl
theorem x204_182 : Ev L xs ρ 204 182 [l0, l1] (.ref a :: st) (n, I, Lm, Rm) r ↔ (a < n ∧ shp a = (0, 11)) ∧ Ev L xs ρ 204 185 [l0, l1] (rfv (Rm a 57) :: st) (n, I, Lm, Rm) r := ev_gtR cm_204 dX11_goesOn_182 rfl rfl
theorem x204_185 : Ev L xs ρ 204 185 [some (.ref a), l1] st σ r ↔ Ev L xs ρ 204 186 [some (.ref a), l1] (.ref a :: st) σ r := ev_aload_n cm_204 dX11_goesOn_185 rfl rfl
theorem x204_186 : Ev L xs ρ 204 186 [l0, l1] (.ref a :: st) (n, I, Lm, Rm) r ↔ (a < n ∧ shp a = (0, 11)) ∧ Ev L xs ρ 204 189 [l0, l1] (.int (I a 58) :: st) (n, I, Lm, Rm) r := ev_gtI cm_204 dX11_goesOn_186 rfl rfl
theorem x204_189 : Ev L xs ρ 204 189 [l0, some (.int x)] st σ r ↔ Ev L xs ρ 204 190 [l0, some (.int x)] (.int x :: st) σ r := ev_iload_n cm_204 dX11_goesOn_189 rfl rfl
theorem x204_190 : Ev L xs ρ 204 190 [l0, l1] (.int y :: .int x :: .ref a :: st) (n, I, Lm, Rm) r ↔ ((a < n ∧ (shp a).1 = 1) ∧ inb x (shp a).2) ∧ Ev L xs ρ 204 191 [l0, l1] st (n, up2 I a (ixn x) y, Lm, Rm) r := ev_iast cm_204 dX11_goesOn_190
theorem x204_191 : Ev L xs ρ 204 191 [some (.ref a), l1] st σ r ↔ Ev L xs ρ 204 192 [some (.ref a), l1] (.ref a :: st) σ r := ev_aload_n cm_204 dX11_goesOn_191 rfl rfl
theorem x204_192 : Ev L xs ρ 204 192 [l0, l1] (.ref a :: st) σ r ↔ Ev L xs ρ 204 193 [l0, l1] (.ref a :: .ref a :: st) σ r := ev_nx (ev_ex cm_204 dX11_goesOn_192 rfl rfl)
theorem x204_193 : Ev L xs ρ 204 193 [l0, l1] (.ref a :: st) (n, I, Lm, Rm) r ↔ (a < n ∧ shp a = (0, 11)) ∧ Ev L xs ρ 204 196 [l0, l1] (.int (I a 58) :: st) (n, I, Lm, Rm) r := ev_gtI cm_204 dX11_goesOn_193 rfl rfl
theorem x204_196 : Ev L xs ρ 204 196 [l0, l1] st σ r ↔ Ev L xs ρ 204 197 [l0, l1] (.int (1) :: st) σ r := ev_iconst cm_204 dX11_goesOn_196 (by decide)
theorem x204_197 : Ev L xs ρ 204 197 [l0, l1] (.int y :: .int x :: st) σ r ↔ Ev L xs ρ 204 198 [l0, l1] (.int (x + y) :: st) σ r := ev_nx (ev_ex cm_204 dX11_goesOn_197 rfl rfl)
theorem x204_198 : Ev L xs ρ 204 198 [l0, l1] (.int x :: .ref a :: st) (n, I, Lm, Rm) r ↔ (a < n ∧ shp a = (0, 11)) ∧ Ev L xs ρ 204 201 [l0, l1] st (n, up2 I a 58 x, Lm, Rm) r := ev_ptI cm_204 dX11_goesOn_198 rfl rfl (Or.inl rfl)
theorem x204_201 : Ev L xs ρ 204 201 [l0, l1] st σ r ↔ Ev L xs ρ 204 202 [l0, l1] (.int (1) :: st) σ r := ev_iconst cm_204 dX11_goesOn_201 (by decide)
theorem x204_202 : Ev L xs ρ 204 202 [l0, l1] [.int x] σ r ↔ (x = 0 ∨ x = 1) ∧ r = (some (.int x), σ) := ev_retz cm_204 dX11_goesOn_202 rfl
theorem x204_203 : Ev L xs ρ 204 203 [some (.ref a), l1] st σ r ↔ Ev L xs ρ 204 204 [some (.ref a), l1] (.ref a :: st) σ r := ev_aload_n cm_204 dX11_goesOn_203 rfl rfl
theorem x204_204 : Ev L xs ρ 204 204 [l0, l1] st σ r ↔ Ev L xs ρ 204 206 [l0, l1] (.int (43) :: st) σ r := ev_bipush cm_204 dX11_goesOn_204 (by decide)
theorem x204_206 : Ev L xs 3 204 206 [l0, l1] (.int x :: .ref a :: []) (n, I, Lm, Rm) r ↔ (a < n ∧ shp a = (0, 11)) ∧ ∃ v n2 I2 L2 R2, Em L xs 177 [.ref a, .int x] (n, I, Lm, Rm) (v, n2, I2, L2, R2) ∧ Ev L xs 3 204 209 [l0, l1] (v.toList ++ []) (n2, I2, L2, R2) r := ev_cV cm_204 [.int x] dX11_goesOn_206 rfl rfl rfl rfl (Nat.le_of_ble_eq_true rfl) (rka_lt rfl (by decide)) (Nat.le_of_ble_eq_true rfl)
theorem x204_209 : Ev L xs ρ 204 209 [l0, l1] (.int x :: st) σ r ↔ if x = 0 then Ev L xs ρ 204 212 [l0, l1] st σ r else Ev L xs ρ 204 221 [l0, l1] st σ r := ev_ifne cm_204 dX11_goesOn_209 (by decide)
theorem x204_212 : Ev L xs ρ 204 212 [some (.ref a), l1] st σ r ↔ Ev L xs ρ 204 213 [some (.ref a), l1] (.ref a :: st) σ r := ev_aload_n cm_204 dX11_goesOn_212 rfl rfl
theorem x204_213 : Ev L xs ρ 204 213 [l0, l1] st σ r ↔ Ev L xs ρ 204 215 [l0, l1] (.int (45) :: st) σ r := ev_bipush cm_204 dX11_goesOn_213 (by decide)
theorem x204_215 : Ev L xs 3 204 215 [l0, l1] (.int x :: .ref a :: []) (n, I, Lm, Rm) r ↔ (a < n ∧ shp a = (0, 11)) ∧ ∃ v n2 I2 L2 R2, Em L xs 177 [.ref a, .int x] (n, I, Lm, Rm) (v, n2, I2, L2, R2) ∧ Ev L xs 3 204 218 [l0, l1] (v.toList ++ []) (n2, I2, L2, R2) r := ev_cV cm_204 [.int x] dX11_goesOn_215 rfl rfl rfl rfl (Nat.le_of_ble_eq_true rfl) (rka_lt rfl (by decide)) (Nat.le_of_ble_eq_true rfl)
theorem x204_218 : Ev L xs ρ 204 218 [l0, l1] (.int x :: st) σ r ↔ if x = 0 then Ev L xs ρ 204 304 [l0, l1] st σ r else Ev L xs ρ 204 221 [l0, l1] st σ r := ev_ifeq cm_204 dX11_goesOn_218 (by decide)
theorem x204_221 : Ev L xs ρ 204 221 [some (.ref a), l1] st σ r ↔ Ev L xs ρ 204 222 [some (.ref a), l1] (.ref a :: st) σ r := ev_aload_n cm_204 dX11_goesOn_221 rfl rfl
theorem x204_222 : Ev L xs ρ 204 222 [l0, l1] (.ref a :: st) (n, I, Lm, Rm) r ↔ (a < n ∧ shp a = (0, 11)) ∧ Ev L xs ρ 204 225 [l0, l1] (rfv (Rm a 0) :: st) (n, I, Lm, Rm) r := ev_gtR cm_204 dX11_goesOn_222 rfl rfl
theorem x204_225 : Ev L xs ρ 204 225 [some (.ref a), l1] st σ r ↔ Ev L xs ρ 204 226 [some (.ref a), l1] (.ref a :: st) σ r := ev_aload_n cm_204 dX11_goesOn_225 rfl rfl
theorem x204_226 : Ev L xs ρ 204 226 [l0, l1] (.ref a :: st) (n, I, Lm, Rm) r ↔ (a < n ∧ shp a = (0, 11)) ∧ Ev L xs ρ 204 229 [l0, l1] (.int (I a 2) :: st) (n, I, Lm, Rm) r := ev_gtI cm_204 dX11_goesOn_226 rfl rfl
theorem x204_229 : Ev L xs ρ 204 229 [l0, l1] st σ r ↔ Ev L xs ρ 204 230 [l0, l1] (.int (1) :: st) σ r := ev_iconst cm_204 dX11_goesOn_229 (by decide)
theorem x204_230 : Ev L xs ρ 204 230 [l0, l1] (.int y :: .int x :: st) σ r ↔ Ev L xs ρ 204 231 [l0, l1] (.int (x - y) :: st) σ r := ev_nx (ev_ex cm_204 dX11_goesOn_230 rfl rfl)
theorem x204_231 : Ev L xs ρ 204 231 [l0, l1] (.int x :: .ref a :: st) (n, I, Lm, Rm) r ↔ ((a < n ∧ (shp a).1 = 1) ∧ inb x (shp a).2) ∧ Ev L xs ρ 204 232 [l0, l1] (.int (I a (ixn x)) :: st) (n, I, Lm, Rm) r := ev_iald cm_204 dX11_goesOn_231 (by decide)
theorem x204_232 : Ev L xs ρ 204 232 [l0, l1] st σ r ↔ Ev L xs ρ 204 234 [l0, l1] (.int (43) :: st) σ r := ev_bipush cm_204 dX11_goesOn_232 (by decide)
theorem x204_234 : Ev L xs ρ 204 234 [l0, l1] (.int y :: .int x :: st) σ r ↔ if x = y then Ev L xs ρ 204 237 [l0, l1] st σ r else Ev L xs ρ 204 241 [l0, l1] st σ r := ev_icne cm_204 dX11_goesOn_234 (by decide)
theorem x204_237 : Ev L xs ρ 204 237 [l0, l1] st σ r ↔ Ev L xs ρ 204 238 [l0, l1] (.int (1) :: st) σ r := ev_iconst cm_204 dX11_goesOn_237 (by decide)
theorem x204_238 : Ev L xs ρ 204 238 [l0, l1] st σ r ↔ Ev L xs ρ 204 242 [l0, l1] st σ r := ev_goto cm_204 dX11_goesOn_238 (by decide)
theorem x204_241 : Ev L xs ρ 204 241 [l0, l1] st σ r ↔ Ev L xs ρ 204 242 [l0, l1] (.int (2) :: st) σ r := ev_iconst cm_204 dX11_goesOn_241 (by decide)
theorem x204_242 : Ev L xs ρ 204 242 [l0, l1] (.int x :: st) σ r ↔ Ev L xs ρ 204 243 [l0, some (.int x)] st σ r := ev_istore_n cm_204 dX11_goesOn_242 rfl (Nat.le_of_ble_eq_true rfl)
theorem x204_243 : Ev L xs ρ 204 243 [some (.ref a), l1] st σ r ↔ Ev L xs ρ 204 244 [some (.ref a), l1] (.ref a :: st) σ r := ev_aload_n cm_204 dX11_goesOn_243 rfl rfl
theorem x204_244 : Ev L xs ρ 204 244 [l0, l1] st σ r ↔ Ev L xs ρ 204 245 [l0, l1] (.int (3) :: st) σ r := ev_iconst cm_204 dX11_goesOn_244 (by decide)
theorem x204_245 : Ev L xs 3 204 245 [l0, l1] (.int x :: .ref a :: []) (n, I, Lm, Rm) r ↔ (a < n ∧ shp a = (0, 11)) ∧ ∃ v n2 I2 L2 R2, Em L xs 198 [.ref a, .int x] (n, I, Lm, Rm) (v, n2, I2, L2, R2) ∧ Ev L xs 3 204 248 [l0, l1] (v.toList ++ []) (n2, I2, L2, R2) r := ev_cV cm_204 [.int x] dX11_goesOn_245 rfl rfl rfl rfl (Nat.le_of_ble_eq_true rfl) (rka_lt rfl (by decide)) (Nat.le_of_ble_eq_true rfl)
theorem x204_248 : Ev L xs ρ 204 248 [l0, l1] (.int x :: st) σ r ↔ if x = 0 then Ev L xs ρ 204 251 [l0, l1] st σ r else Ev L xs ρ 204 275 [l0, l1] st σ r := ev_ifne cm_204 dX11_goesOn_248 (by decide)
theorem x204_251 : Ev L xs ρ 204 251 [some (.ref a), l1] st σ r ↔ Ev L xs ρ 204 252 [some (.ref a), l1] (.ref a :: st) σ r := ev_aload_n cm_204 dX11_goesOn_251 rfl rfl
theorem x204_252 : Ev L xs ρ 204 252 [l0, l1] st σ r ↔ Ev L xs ρ 204 253 [l0, l1] (.int (4) :: st) σ r := ev_iconst cm_204 dX11_goesOn_252 (by decide)
theorem x204_253 : Ev L xs 3 204 253 [l0, l1] (.int x :: .ref a :: []) (n, I, Lm, Rm) r ↔ (a < n ∧ shp a = (0, 11)) ∧ ∃ v n2 I2 L2 R2, Em L xs 198 [.ref a, .int x] (n, I, Lm, Rm) (v, n2, I2, L2, R2) ∧ Ev L xs 3 204 256 [l0, l1] (v.toList ++ []) (n2, I2, L2, R2) r := ev_cV cm_204 [.int x] dX11_goesOn_253 rfl rfl rfl rfl (Nat.le_of_ble_eq_true rfl) (rka_lt rfl (by decide)) (Nat.le_of_ble_eq_true rfl)
theorem x204_256 : Ev L xs ρ 204 256 [l0, l1] (.int x :: st) σ r ↔ if x = 0 then Ev L xs ρ 204 259 [l0, l1] st σ r else Ev L xs ρ 204 275 [l0, l1] st σ r := ev_ifne cm_204 dX11_goesOn_256 (by decide)
theorem x204_259 : Ev L xs ρ 204 259 [some (.ref a), l1] st σ r ↔ Ev L xs ρ 204 260 [some (.ref a), l1] (.ref a :: st) σ r := ev_aload_n cm_204 dX11_goesOn_259 rfl rfl
theorem x204_260 : Ev L xs ρ 204 260 [l0, l1] st σ r ↔ Ev L xs ρ 204 261 [l0, l1] (.int (1) :: st) σ r := ev_iconst cm_204 dX11_goesOn_260 (by decide)
theorem x204_261 : Ev L xs 3 204 261 [l0, l1] (.int x :: .ref a :: []) (n, I, Lm, Rm) r ↔ (a < n ∧ shp a = (0, 11)) ∧ ∃ v n2 I2 L2 R2, Em L xs 198 [.ref a, .int x] (n, I, Lm, Rm) (v, n2, I2, L2, R2) ∧ Ev L xs 3 204 264 [l0, l1] (v.toList ++ []) (n2, I2, L2, R2) r := ev_cV cm_204 [.int x] dX11_goesOn_261 rfl rfl rfl rfl (Nat.le_of_ble_eq_true rfl) (rka_lt rfl (by decide)) (Nat.le_of_ble_eq_true rfl)
theorem x204_264 : Ev L xs ρ 204 264 [l0, l1] (.int x :: st) σ r ↔ if x = 0 then Ev L xs ρ 204 267 [l0, l1] st σ r else Ev L xs ρ 204 275 [l0, l1] st σ r := ev_ifne cm_204 dX11_goesOn_264 (by decide)
theorem x204_267 : Ev L xs ρ 204 267 [some (.ref a), l1] st σ r ↔ Ev L xs ρ 204 268 [some (.ref a), l1] (.ref a :: st) σ r := ev_aload_n cm_204 dX11_goesOn_267 rfl rfl
theorem x204_268 : Ev L xs ρ 204 268 [l0, l1] st σ r ↔ Ev L xs ρ 204 269 [l0, l1] (.int (2) :: st) σ r := ev_iconst cm_204 dX11_goesOn_268 (by decide)
theorem x204_269 : Ev L xs 3 204 269 [l0, l1] (.int x :: .ref a :: []) (n, I, Lm, Rm) r ↔ (a < n ∧ shp a = (0, 11)) ∧ ∃ v n2 I2 L2 R2, Em L xs 198 [.ref a, .int x] (n, I, Lm, Rm) (v, n2, I2, L2, R2) ∧ Ev L xs 3 204 272 [l0, l1] (v.toList ++ []) (n2, I2, L2, R2) r := ev_cV cm_204 [.int x] dX11_goesOn_269 rfl rfl rfl rfl (Nat.le_of_ble_eq_true rfl) (rka_lt rfl (by decide)) (Nat.le_of_ble_eq_true rfl)
theorem x204_272 : Ev L xs ρ 204 272 [l0, l1] (.int x :: st) σ r ↔ if x = 0 then Ev L xs ρ 204 282 [l0, l1] st σ r else Ev L xs ρ 204 275 [l0, l1] st σ r := ev_ifeq cm_204 dX11_goesOn_272 (by decide)
theorem x204_275 : Ev L xs ρ 204 275 [some (.ref a), l1] st σ r ↔ Ev L xs ρ 204 276 [some (.ref a), l1] (.ref a :: st) σ r := ev_aload_n cm_204 dX11_goesOn_275 rfl rfl
theorem x204_276 : Ev L xs 3 204 276 [l0, l1] (.ref a :: []) (n, I, Lm, Rm) r ↔ (a < n ∧ shp a = (0, 11)) ∧ ∃ v n2 I2 L2 R2, Em L xs 199 [.ref a] (n, I, Lm, Rm) (v, n2, I2, L2, R2) ∧ Ev L xs 3 204 279 [l0, l1] (v.toList ++ []) (n2, I2, L2, R2) r := ev_cV cm_204 [] dX11_goesOn_276 rfl rfl rfl rfl (Nat.le_of_ble_eq_true rfl) (rka_lt rfl (by decide)) (Nat.le_of_ble_eq_true rfl)
theorem x204_279 : Ev L xs ρ 204 279 [l0, l1] st σ r ↔ Ev L xs ρ 204 243 [l0, l1] st σ r := ev_goto cm_204 dX11_goesOn_279 (by decide)
theorem x204_282 : Ev L xs ρ 204 282 [some (.ref a), l1] st σ r ↔ Ev L xs ρ 204 283 [some (.ref a), l1] (.ref a :: st) σ r := ev_aload_n cm_204 dX11_goesOn_282 rfl rfl
theorem x204_283 : Ev L xs ρ 204 283 [l0, l1] (.ref a :: st) (n, I, Lm, Rm) r ↔ (a < n ∧ shp a = (0, 11)) ∧ Ev L xs ρ 204 286 [l0, l1] (rfv (Rm a 57) :: st) (n, I, Lm, Rm) r := ev_gtR cm_204 dX11_goesOn_283 rfl rfl
theorem x204_286 : Ev L xs ρ 204 286 [some (.ref a), l1] st σ r ↔ Ev L xs ρ 204 287 [some (.ref a), l1] (.ref a :: st) σ r := ev_aload_n cm_204 dX11_goesOn_286 rfl rfl
theorem x204_287 : Ev L xs ρ 204 287 [l0, l1] (.ref a :: st) (n, I, Lm, Rm) r ↔ (a < n ∧ shp a = (0, 11)) ∧ Ev L xs ρ 204 290 [l0, l1] (.int (I a 58) :: st) (n, I, Lm, Rm) r := ev_gtI cm_204 dX11_goesOn_287 rfl rfl
theorem x204_290 : Ev L xs ρ 204 290 [l0, some (.int x)] st σ r ↔ Ev L xs ρ 204 291 [l0, some (.int x)] (.int x :: st) σ r := ev_iload_n cm_204 dX11_goesOn_290 rfl rfl
theorem x204_291 : Ev L xs ρ 204 291 [l0, l1] (.int y :: .int x :: .ref a :: st) (n, I, Lm, Rm) r ↔ ((a < n ∧ (shp a).1 = 1) ∧ inb x (shp a).2) ∧ Ev L xs ρ 204 292 [l0, l1] st (n, up2 I a (ixn x) y, Lm, Rm) r := ev_iast cm_204 dX11_goesOn_291
theorem x204_292 : Ev L xs ρ 204 292 [some (.ref a), l1] st σ r ↔ Ev L xs ρ 204 293 [some (.ref a), l1] (.ref a :: st) σ r := ev_aload_n cm_204 dX11_goesOn_292 rfl rfl
theorem x204_293 : Ev L xs ρ 204 293 [l0, l1] (.ref a :: st) σ r ↔ Ev L xs ρ 204 294 [l0, l1] (.ref a :: .ref a :: st) σ r := ev_nx (ev_ex cm_204 dX11_goesOn_293 rfl rfl)
theorem x204_294 : Ev L xs ρ 204 294 [l0, l1] (.ref a :: st) (n, I, Lm, Rm) r ↔ (a < n ∧ shp a = (0, 11)) ∧ Ev L xs ρ 204 297 [l0, l1] (.int (I a 58) :: st) (n, I, Lm, Rm) r := ev_gtI cm_204 dX11_goesOn_294 rfl rfl
theorem x204_297 : Ev L xs ρ 204 297 [l0, l1] st σ r ↔ Ev L xs ρ 204 298 [l0, l1] (.int (1) :: st) σ r := ev_iconst cm_204 dX11_goesOn_297 (by decide)
theorem x204_298 : Ev L xs ρ 204 298 [l0, l1] (.int y :: .int x :: st) σ r ↔ Ev L xs ρ 204 299 [l0, l1] (.int (x + y) :: st) σ r := ev_nx (ev_ex cm_204 dX11_goesOn_298 rfl rfl)
theorem x204_299 : Ev L xs ρ 204 299 [l0, l1] (.int x :: .ref a :: st) (n, I, Lm, Rm) r ↔ (a < n ∧ shp a = (0, 11)) ∧ Ev L xs ρ 204 302 [l0, l1] st (n, up2 I a 58 x, Lm, Rm) r := ev_ptI cm_204 dX11_goesOn_299 rfl rfl (Or.inl rfl)
theorem x204_302 : Ev L xs ρ 204 302 [l0, l1] st σ r ↔ Ev L xs ρ 204 303 [l0, l1] (.int (1) :: st) σ r := ev_iconst cm_204 dX11_goesOn_302 (by decide)
theorem x204_303 : Ev L xs ρ 204 303 [l0, l1] [.int x] σ r ↔ (x = 0 ∨ x = 1) ∧ r = (some (.int x), σ) := ev_retz cm_204 dX11_goesOn_303 rfl
theorem x204_304 : Ev L xs ρ 204 304 [some (.ref a), l1] st σ r ↔ Ev L xs ρ 204 305 [some (.ref a), l1] (.ref a :: st) σ r := ev_aload_n cm_204 dX11_goesOn_304 rfl rfl
theorem x204_305 : Ev L xs 3 204 305 [l0, l1] (.ref a :: []) (n, I, Lm, Rm) r ↔ (a < n ∧ shp a = (0, 11)) ∧ ∃ v n2 I2 L2 R2, Em L xs 201 [.ref a] (n, I, Lm, Rm) (v, n2, I2, L2, R2) ∧ Ev L xs 3 204 308 [l0, l1] (v.toList ++ []) (n2, I2, L2, R2) r := ev_cV cm_204 [] dX11_goesOn_305 rfl rfl rfl rfl (Nat.le_of_ble_eq_true rfl) (rka_lt rfl (by decide)) (Nat.le_of_ble_eq_true rfl)
theorem x204_308 : Ev L xs ρ 204 308 [l0, l1] st σ r ↔ Ev L xs ρ 204 310 [l0, l1] (.int (21) :: st) σ r := ev_bipush cm_204 dX11_goesOn_308 (by decide)
theorem x204_310 : Ev L xs ρ 204 310 [l0, l1] (.int y :: .int x :: st) σ r ↔ if x = y then Ev L xs ρ 204 322 [l0, l1] st σ r else Ev L xs ρ 204 313 [l0, l1] st σ r := ev_iceq cm_204 dX11_goesOn_310 (by decide)
theorem x204_313 : Ev L xs ρ 204 313 [some (.ref a), l1] st σ r ↔ Ev L xs ρ 204 314 [some (.ref a), l1] (.ref a :: st) σ r := ev_aload_n cm_204 dX11_goesOn_313 rfl rfl
theorem x204_314 : Ev L xs 3 204 314 [l0, l1] (.ref a :: []) (n, I, Lm, Rm) r ↔ (a < n ∧ shp a = (0, 11)) ∧ ∃ v n2 I2 L2 R2, Em L xs 201 [.ref a] (n, I, Lm, Rm) (v, n2, I2, L2, R2) ∧ Ev L xs 3 204 317 [l0, l1] (v.toList ++ []) (n2, I2, L2, R2) r := ev_cV cm_204 [] dX11_goesOn_314 rfl rfl rfl rfl (Nat.le_of_ble_eq_true rfl) (rka_lt rfl (by decide)) (Nat.le_of_ble_eq_true rfl)
theorem x204_317 : Ev L xs ρ 204 317 [l0, l1] st σ r ↔ Ev L xs ρ 204 319 [l0, l1] (.int (22) :: st) σ r := ev_bipush cm_204 dX11_goesOn_317 (by decide)
theorem x204_319 : Ev L xs ρ 204 319 [l0, l1] (.int y :: .int x :: st) σ r ↔ if x = y then Ev L xs ρ 204 322 [l0, l1] st σ r else Ev L xs ρ 204 358 [l0, l1] st σ r := ev_icne cm_204 dX11_goesOn_319 (by decide)
theorem x204_322 : Ev L xs ρ 204 322 [some (.ref a), l1] st σ r ↔ Ev L xs ρ 204 323 [some (.ref a), l1] (.ref a :: st) σ r := ev_aload_n cm_204 dX11_goesOn_322 rfl rfl
theorem x204_323 : Ev L xs ρ 204 323 [l0, l1] st σ r ↔ Ev L xs ρ 204 325 [l0, l1] (.int (44) :: st) σ r := ev_bipush cm_204 dX11_goesOn_323 (by decide)
theorem x204_325 : Ev L xs 3 204 325 [l0, l1] (.int x :: .ref a :: []) (n, I, Lm, Rm) r ↔ (a < n ∧ shp a = (0, 11)) ∧ ∃ v n2 I2 L2 R2, Em L xs 178 [.ref a, .int x] (n, I, Lm, Rm) (v, n2, I2, L2, R2) ∧ Ev L xs 3 204 328 [l0, l1] (v.toList ++ []) (n2, I2, L2, R2) r := ev_cV cm_204 [.int x] dX11_goesOn_325 rfl rfl rfl rfl (Nat.le_of_ble_eq_true rfl) (rka_lt rfl (by decide)) (Nat.le_of_ble_eq_true rfl)
theorem x204_328 : Ev L xs ρ 204 328 [some (.ref a), l1] st σ r ↔ Ev L xs ρ 204 329 [some (.ref a), l1] (.ref a :: st) σ r := ev_aload_n cm_204 dX11_goesOn_328 rfl rfl
theorem x204_329 : Ev L xs ρ 204 329 [l0, l1] (.ref a :: st) (n, I, Lm, Rm) r ↔ (a < n ∧ shp a = (0, 11)) ∧ Ev L xs ρ 204 332 [l0, l1] (.int (I a 5) :: st) (n, I, Lm, Rm) r := ev_gtI cm_204 dX11_goesOn_329 rfl rfl
theorem x204_332 : Ev L xs ρ 204 332 [l0, l1] (.int x :: st) σ r ↔ if x = 0 then Ev L xs ρ 204 337 [l0, l1] st σ r else Ev L xs ρ 204 335 [l0, l1] st σ r := ev_ifeq cm_204 dX11_goesOn_332 (by decide)
theorem x204_335 : Ev L xs ρ 204 335 [l0, l1] st σ r ↔ Ev L xs ρ 204 336 [l0, l1] (.int (0) :: st) σ r := ev_iconst cm_204 dX11_goesOn_335 (by decide)
theorem x204_336 : Ev L xs ρ 204 336 [l0, l1] [.int x] σ r ↔ (x = 0 ∨ x = 1) ∧ r = (some (.int x), σ) := ev_retz cm_204 dX11_goesOn_336 rfl
theorem x204_337 : Ev L xs ρ 204 337 [some (.ref a), l1] st σ r ↔ Ev L xs ρ 204 338 [some (.ref a), l1] (.ref a :: st) σ r := ev_aload_n cm_204 dX11_goesOn_337 rfl rfl
theorem x204_338 : Ev L xs 3 204 338 [l0, l1] (.ref a :: []) (n, I, Lm, Rm) r ↔ (a < n ∧ shp a = (0, 11)) ∧ ∃ v n2 I2 L2 R2, Em L xs 202 [.ref a] (n, I, Lm, Rm) (v, n2, I2, L2, R2) ∧ Ev L xs 3 204 341 [l0, l1] (v.toList ++ []) (n2, I2, L2, R2) r := ev_cV cm_204 [] dX11_goesOn_338 rfl rfl rfl rfl (Nat.le_of_ble_eq_true rfl) (rka_lt rfl (by decide)) (Nat.le_of_ble_eq_true rfl)
theorem x204_341 : Ev L xs ρ 204 341 [some (.ref a), l1] st σ r ↔ Ev L xs ρ 204 342 [some (.ref a), l1] (.ref a :: st) σ r := ev_aload_n cm_204 dX11_goesOn_341 rfl rfl
theorem x204_342 : Ev L xs ρ 204 342 [l0, l1] (.ref a :: st) (n, I, Lm, Rm) r ↔ (a < n ∧ shp a = (0, 11)) ∧ Ev L xs ρ 204 345 [l0, l1] (rfv (Rm a 57) :: st) (n, I, Lm, Rm) r := ev_gtR cm_204 dX11_goesOn_342 rfl rfl
theorem x204_345 : Ev L xs ρ 204 345 [some (.ref a), l1] st σ r ↔ Ev L xs ρ 204 346 [some (.ref a), l1] (.ref a :: st) σ r := ev_aload_n cm_204 dX11_goesOn_345 rfl rfl
theorem x204_346 : Ev L xs ρ 204 346 [l0, l1] (.ref a :: st) (n, I, Lm, Rm) r ↔ (a < n ∧ shp a = (0, 11)) ∧ Ev L xs ρ 204 349 [l0, l1] (.int (I a 58) :: st) (n, I, Lm, Rm) r := ev_gtI cm_204 dX11_goesOn_346 rfl rfl
theorem x204_349 : Ev L xs ρ 204 349 [l0, l1] st σ r ↔ Ev L xs ρ 204 350 [l0, l1] (.int (1) :: st) σ r := ev_iconst cm_204 dX11_goesOn_349 (by decide)
theorem x204_350 : Ev L xs ρ 204 350 [l0, l1] (.int y :: .int x :: st) σ r ↔ Ev L xs ρ 204 351 [l0, l1] (.int (x - y) :: st) σ r := ev_nx (ev_ex cm_204 dX11_goesOn_350 rfl rfl)
theorem x204_351 : Ev L xs ρ 204 351 [l0, l1] (.int x :: .ref a :: st) σ r ↔ Ev L xs ρ 204 352 [l0, l1] (.int x :: .ref a :: .int x :: .ref a :: st) σ r := ev_nx (ev_ex cm_204 dX11_goesOn_351 rfl rfl)
theorem x204_352 : Ev L xs ρ 204 352 [l0, l1] (.int x :: .ref a :: st) (n, I, Lm, Rm) r ↔ ((a < n ∧ (shp a).1 = 1) ∧ inb x (shp a).2) ∧ Ev L xs ρ 204 353 [l0, l1] (.int (I a (ixn x)) :: st) (n, I, Lm, Rm) r := ev_iald cm_204 dX11_goesOn_352 (by decide)
theorem x204_353 : Ev L xs ρ 204 353 [l0, l1] st σ r ↔ Ev L xs ρ 204 354 [l0, l1] (.int (2) :: st) σ r := ev_iconst cm_204 dX11_goesOn_353 (by decide)
theorem x204_354 : Ev L xs ρ 204 354 [l0, l1] (.int y :: .int x :: st) σ r ↔ Ev L xs ρ 204 355 [l0, l1] (.int (x + y) :: st) σ r := ev_nx (ev_ex cm_204 dX11_goesOn_354 rfl rfl)
theorem x204_355 : Ev L xs ρ 204 355 [l0, l1] (.int y :: .int x :: .ref a :: st) (n, I, Lm, Rm) r ↔ ((a < n ∧ (shp a).1 = 1) ∧ inb x (shp a).2) ∧ Ev L xs ρ 204 356 [l0, l1] st (n, up2 I a (ixn x) y, Lm, Rm) r := ev_iast cm_204 dX11_goesOn_355
theorem x204_356 : Ev L xs ρ 204 356 [l0, l1] st σ r ↔ Ev L xs ρ 204 357 [l0, l1] (.int (1) :: st) σ r := ev_iconst cm_204 dX11_goesOn_356 (by decide)
theorem x204_357 : Ev L xs ρ 204 357 [l0, l1] [.int x] σ r ↔ (x = 0 ∨ x = 1) ∧ r = (some (.int x), σ) := ev_retz cm_204 dX11_goesOn_357 rfl
theorem x204_358 : Ev L xs ρ 204 358 [some (.ref a), l1] st σ r ↔ Ev L xs ρ 204 359 [some (.ref a), l1] (.ref a :: st) σ r := ev_aload_n cm_204 dX11_goesOn_358 rfl rfl
theorem x204_359 : Ev L xs 3 204 359 [l0, l1] (.ref a :: []) (n, I, Lm, Rm) r ↔ (a < n ∧ shp a = (0, 11)) ∧ ∃ v n2 I2 L2 R2, Em L xs 201 [.ref a] (n, I, Lm, Rm) (v, n2, I2, L2, R2) ∧ Ev L xs 3 204 362 [l0, l1] (v.toList ++ []) (n2, I2, L2, R2) r := ev_cV cm_204 [] dX11_goesOn_359 rfl rfl rfl rfl (Nat.le_of_ble_eq_true rfl) (rka_lt rfl (by decide)) (Nat.le_of_ble_eq_true rfl)
theorem x204_362 : Ev L xs ρ 204 362 [l0, l1] st σ r ↔ Ev L xs ρ 204 363 [l0, l1] (.int (-1) :: st) σ r := ev_iconst cm_204 dX11_goesOn_362 (by decide)
theorem x204_363 : Ev L xs ρ 204 363 [l0, l1] (.int y :: .int x :: st) σ r ↔ if x = y then Ev L xs ρ 204 382 [l0, l1] st σ r else Ev L xs ρ 204 366 [l0, l1] st σ r := ev_iceq cm_204 dX11_goesOn_363 (by decide)
theorem x204_366 : Ev L xs ρ 204 366 [some (.ref a), l1] st σ r ↔ Ev L xs ρ 204 367 [some (.ref a), l1] (.ref a :: st) σ r := ev_aload_n cm_204 dX11_goesOn_366 rfl rfl
theorem x204_367 : Ev L xs ρ 204 367 [l0, l1] (.ref a :: st) (n, I, Lm, Rm) r ↔ (a < n ∧ shp a = (0, 11)) ∧ Ev L xs ρ 204 370 [l0, l1] (.int (I a 5) :: st) (n, I, Lm, Rm) r := ev_gtI cm_204 dX11_goesOn_367 rfl rfl
theorem x204_370 : Ev L xs ρ 204 370 [l0, l1] (.int x :: st) σ r ↔ if x = 0 then Ev L xs ρ 204 373 [l0, l1] st σ r else Ev L xs ρ 204 382 [l0, l1] st σ r := ev_ifne cm_204 dX11_goesOn_370 (by decide)
theorem x204_373 : Ev L xs ρ 204 373 [some (.ref a), l1] st σ r ↔ Ev L xs ρ 204 374 [some (.ref a), l1] (.ref a :: st) σ r := ev_aload_n cm_204 dX11_goesOn_373 rfl rfl
theorem x204_374 : Ev L xs ρ 204 374 [l0, l1] st σ r ↔ Ev L xs ρ 204 375 [l0, l1] (.int (1) :: st) σ r := ev_iconst cm_204 dX11_goesOn_374 (by decide)
theorem x204_375 : Ev L xs ρ 204 375 [some (.ref a), l1] st σ r ↔ Ev L xs ρ 204 376 [some (.ref a), l1] (.ref a :: st) σ r := ev_aload_n cm_204 dX11_goesOn_375 rfl rfl
theorem x204_376 : Ev L xs ρ 204 376 [l0, l1] (.ref a :: st) (n, I, Lm, Rm) r ↔ (a < n ∧ shp a = (0, 11)) ∧ Ev L xs ρ 204 379 [l0, l1] (.int (I a 2) :: st) (n, I, Lm, Rm) r := ev_gtI cm_204 dX11_goesOn_376 rfl rfl
theorem x204_379 : Ev L xs 3 204 379 [l0, l1] (.int y :: .int x :: .ref a :: []) (n, I, Lm, Rm) r ↔ (a < n ∧ shp a = (0, 11)) ∧ ∃ v n2 I2 L2 R2, Em L xs 170 [.ref a, .int x, .int y] (n, I, Lm, Rm) (v, n2, I2, L2, R2) ∧ Ev L xs 3 204 382 [l0, l1] (v.toList ++ []) (n2, I2, L2, R2) r := ev_cV cm_204 [.int x, .int y] dX11_goesOn_379 rfl rfl rfl rfl (Nat.le_of_ble_eq_true rfl) (rka_lt rfl (by decide)) (Nat.le_of_ble_eq_true rfl)
theorem x204_382 : Ev L xs ρ 204 382 [l0, l1] st σ r ↔ Ev L xs ρ 204 383 [l0, l1] (.int (0) :: st) σ r := ev_iconst cm_204 dX11_goesOn_382 (by decide)
theorem x204_383 : Ev L xs ρ 204 383 [l0, l1] [.int x] σ r ↔ (x = 0 ∨ x = 1) ∧ r = (some (.int x), σ) := ev_retz cm_204 dX11_goesOn_383 rfl
theorem cm_205 : mcd 205 = cX11_sums := rfl
theorem em_205 : Em L xs 205 [.ref a] σ r ↔ Ev L xs 5 205 0 [some (.ref a), none, none] [] σ r := Iff.rfl
theorem x205_0 : Ev L xs ρ 205 0 [some (.ref a), l1, l2] st σ r ↔ Ev L xs ρ 205 1 [some (.ref a), l1, l2] (.ref a :: st) σ r := ev_aload_n cm_205 dX11_sums_0 rfl rfl
theorem x205_1 : Ev L xs ρ 205 1 [l0, l1, l2] (.ref a :: st) (n, I, Lm, Rm) r ↔ (a < n ∧ shp a = (0, 11)) ∧ Ev L xs ρ 205 4 [l0, l1, l2] (.int (I a 65) :: st) (n, I, Lm, Rm) r := ev_gtI cm_205 dX11_sums_1 rfl rfl
theorem x205_4 : Ev L xs ρ 205 4 [l0, l1, l2] (.int x :: st) σ r ↔ Ev L xs ρ 205 5 [l0, some (.int x), l2] st σ r := ev_istore_n cm_205 dX11_sums_4 rfl (Nat.le_of_ble_eq_true rfl)
theorem x205_5 : Ev L xs ρ 205 5 [some (.ref a), l1, l2] st σ r ↔ Ev L xs ρ 205 6 [some (.ref a), l1, l2] (.ref a :: st) σ r := ev_aload_n cm_205 dX11_sums_5 rfl rfl
theorem x205_6 : Ev L xs ρ 205 6 [some (.ref a), l1, l2] st σ r ↔ Ev L xs ρ 205 7 [some (.ref a), l1, l2] (.ref a :: st) σ r := ev_aload_n cm_205 dX11_sums_6 rfl rfl
theorem x205_7 : Ev L xs ρ 205 7 [l0, l1, l2] (.ref a :: st) (n, I, Lm, Rm) r ↔ (a < n ∧ shp a = (0, 11)) ∧ Ev L xs ρ 205 10 [l0, l1, l2] (.int (I a 58) :: st) (n, I, Lm, Rm) r := ev_gtI cm_205 dX11_sums_7 rfl rfl
theorem x205_10 : Ev L xs ρ 205 10 [l0, l1, l2] (.int x :: .ref a :: st) (n, I, Lm, Rm) r ↔ (a < n ∧ shp a = (0, 11)) ∧ Ev L xs ρ 205 13 [l0, l1, l2] st (n, up2 I a 65 x, Lm, Rm) r := ev_ptI cm_205 dX11_sums_10 rfl rfl (Or.inl rfl)
theorem x205_13 : Ev L xs ρ 205 13 [l0, l1, l2] st σ r ↔ Ev L xs ρ 205 14 [l0, l1, l2] (.int (1) :: st) σ r := ev_iconst cm_205 dX11_sums_13 (by decide)
theorem x205_14 : Ev L xs ρ 205 14 [l0, l1, l2] (.int x :: st) σ r ↔ Ev L xs ρ 205 15 [l0, l1, some (.int x)] st σ r := ev_istore_n cm_205 dX11_sums_14 rfl (Nat.le_of_ble_eq_true rfl)
theorem x205_15 : Ev L xs ρ 205 15 [l0, l1, some (.int x)] st σ r ↔ Ev L xs ρ 205 16 [l0, l1, some (.int x)] (.int x :: st) σ r := ev_iload_n cm_205 dX11_sums_15 rfl rfl
theorem x205_16 : Ev L xs ρ 205 16 [l0, l1, l2] (.int x :: st) σ r ↔ if x = 0 then Ev L xs ρ 205 53 [l0, l1, l2] st σ r else Ev L xs ρ 205 19 [l0, l1, l2] st σ r := ev_ifeq cm_205 dX11_sums_16 (by decide)
theorem x205_19 : Ev L xs ρ 205 19 [some (.ref a), l1, l2] st σ r ↔ Ev L xs ρ 205 20 [some (.ref a), l1, l2] (.ref a :: st) σ r := ev_aload_n cm_205 dX11_sums_19 rfl rfl
theorem x205_20 : Ev L xs ρ 205 20 [l0, l1, l2] (.ref a :: st) (n, I, Lm, Rm) r ↔ (a < n ∧ shp a = (0, 11)) ∧ Ev L xs ρ 205 23 [l0, l1, l2] (.int (I a 5) :: st) (n, I, Lm, Rm) r := ev_gtI cm_205 dX11_sums_20 rfl rfl
theorem x205_23 : Ev L xs ρ 205 23 [l0, l1, l2] (.int x :: st) σ r ↔ if x = 0 then Ev L xs ρ 205 26 [l0, l1, l2] st σ r else Ev L xs ρ 205 53 [l0, l1, l2] st σ r := ev_ifne cm_205 dX11_sums_23 (by decide)
theorem x205_26 : Ev L xs ρ 205 26 [some (.ref a), l1, l2] st σ r ↔ Ev L xs ρ 205 27 [some (.ref a), l1, l2] (.ref a :: st) σ r := ev_aload_n cm_205 dX11_sums_26 rfl rfl
theorem x205_27 : Ev L xs 5 205 27 [l0, l1, l2] (.ref a :: []) (n, I, Lm, Rm) r ↔ (a < n ∧ shp a = (0, 11)) ∧ ∃ v n2 I2 L2 R2, Em L xs 203 [.ref a] (n, I, Lm, Rm) (v, n2, I2, L2, R2) ∧ Ev L xs 5 205 30 [l0, l1, l2] (v.toList ++ []) (n2, I2, L2, R2) r := ev_cV cm_205 [] dX11_sums_27 rfl rfl rfl rfl (Nat.le_of_ble_eq_true rfl) (rka_lt rfl (by decide)) (Nat.le_of_ble_eq_true rfl)
theorem x205_30 : Ev L xs ρ 205 30 [some (.ref a), l1, l2] st σ r ↔ Ev L xs ρ 205 31 [some (.ref a), l1, l2] (.ref a :: st) σ r := ev_aload_n cm_205 dX11_sums_30 rfl rfl
theorem x205_31 : Ev L xs ρ 205 31 [l0, l1, l2] (.ref a :: st) (n, I, Lm, Rm) r ↔ (a < n ∧ shp a = (0, 11)) ∧ Ev L xs ρ 205 34 [l0, l1, l2] (.int (I a 5) :: st) (n, I, Lm, Rm) r := ev_gtI cm_205 dX11_sums_31 rfl rfl
theorem x205_34 : Ev L xs ρ 205 34 [l0, l1, l2] (.int x :: st) σ r ↔ if x = 0 then Ev L xs ρ 205 37 [l0, l1, l2] st σ r else Ev L xs ρ 205 48 [l0, l1, l2] st σ r := ev_ifne cm_205 dX11_sums_34 (by decide)
theorem x205_37 : Ev L xs ρ 205 37 [some (.ref a), l1, l2] st σ r ↔ Ev L xs ρ 205 38 [some (.ref a), l1, l2] (.ref a :: st) σ r := ev_aload_n cm_205 dX11_sums_37 rfl rfl
theorem x205_38 : Ev L xs 5 205 38 [l0, l1, l2] (.ref a :: []) (n, I, Lm, Rm) r ↔ (a < n ∧ shp a = (0, 11)) ∧ ∃ v n2 I2 L2 R2, Em L xs 204 [.ref a] (n, I, Lm, Rm) (v, n2, I2, L2, R2) ∧ Ev L xs 5 205 41 [l0, l1, l2] (v.toList ++ []) (n2, I2, L2, R2) r := ev_cV cm_205 [] dX11_sums_38 rfl rfl rfl rfl (Nat.le_of_ble_eq_true rfl) (rka_lt rfl (by decide)) (Nat.le_of_ble_eq_true rfl)
theorem x205_41 : Ev L xs ρ 205 41 [l0, l1, l2] (.int x :: st) σ r ↔ if x = 0 then Ev L xs ρ 205 48 [l0, l1, l2] st σ r else Ev L xs ρ 205 44 [l0, l1, l2] st σ r := ev_ifeq cm_205 dX11_sums_41 (by decide)
theorem x205_44 : Ev L xs ρ 205 44 [l0, l1, l2] st σ r ↔ Ev L xs ρ 205 45 [l0, l1, l2] (.int (1) :: st) σ r := ev_iconst cm_205 dX11_sums_44 (by decide)
theorem x205_45 : Ev L xs ρ 205 45 [l0, l1, l2] st σ r ↔ Ev L xs ρ 205 49 [l0, l1, l2] st σ r := ev_goto cm_205 dX11_sums_45 (by decide)
theorem x205_48 : Ev L xs ρ 205 48 [l0, l1, l2] st σ r ↔ Ev L xs ρ 205 49 [l0, l1, l2] (.int (0) :: st) σ r := ev_iconst cm_205 dX11_sums_48 (by decide)
theorem x205_49 : Ev L xs ρ 205 49 [l0, l1, l2] (.int x :: st) σ r ↔ Ev L xs ρ 205 50 [l0, l1, some (.int x)] st σ r := ev_istore_n cm_205 dX11_sums_49 rfl (Nat.le_of_ble_eq_true rfl)
theorem x205_50 : Ev L xs ρ 205 50 [l0, l1, l2] st σ r ↔ Ev L xs ρ 205 15 [l0, l1, l2] st σ r := ev_goto cm_205 dX11_sums_50 (by decide)
theorem x205_53 : Ev L xs ρ 205 53 [some (.ref a), l1, l2] st σ r ↔ Ev L xs ρ 205 54 [some (.ref a), l1, l2] (.ref a :: st) σ r := ev_aload_n cm_205 dX11_sums_53 rfl rfl
theorem x205_54 : Ev L xs ρ 205 54 [l0, l1, l2] (.ref a :: st) (n, I, Lm, Rm) r ↔ (a < n ∧ shp a = (0, 11)) ∧ Ev L xs ρ 205 57 [l0, l1, l2] (.int (I a 5) :: st) (n, I, Lm, Rm) r := ev_gtI cm_205 dX11_sums_54 rfl rfl
theorem x205_57 : Ev L xs ρ 205 57 [l0, l1, l2] (.int x :: st) σ r ↔ if x = 0 then Ev L xs ρ 205 60 [l0, l1, l2] st σ r else Ev L xs ρ 205 78 [l0, l1, l2] st σ r := ev_ifne cm_205 dX11_sums_57 (by decide)
theorem x205_60 : Ev L xs ρ 205 60 [some (.ref a), l1, l2] st σ r ↔ Ev L xs ρ 205 61 [some (.ref a), l1, l2] (.ref a :: st) σ r := ev_aload_n cm_205 dX11_sums_60 rfl rfl
theorem x205_61 : Ev L xs ρ 205 61 [l0, l1, l2] (.ref a :: st) (n, I, Lm, Rm) r ↔ (a < n ∧ shp a = (0, 11)) ∧ Ev L xs ρ 205 64 [l0, l1, l2] (.int (I a 58) :: st) (n, I, Lm, Rm) r := ev_gtI cm_205 dX11_sums_61 rfl rfl
theorem x205_64 : Ev L xs ρ 205 64 [some (.ref a), l1, l2] st σ r ↔ Ev L xs ρ 205 65 [some (.ref a), l1, l2] (.ref a :: st) σ r := ev_aload_n cm_205 dX11_sums_64 rfl rfl
theorem x205_65 : Ev L xs ρ 205 65 [l0, l1, l2] (.ref a :: st) (n, I, Lm, Rm) r ↔ (a < n ∧ shp a = (0, 11)) ∧ Ev L xs ρ 205 68 [l0, l1, l2] (.int (I a 65) :: st) (n, I, Lm, Rm) r := ev_gtI cm_205 dX11_sums_65 rfl rfl
theorem x205_68 : Ev L xs ρ 205 68 [l0, l1, l2] (.int y :: .int x :: st) σ r ↔ if x ≤ y then Ev L xs ρ 205 78 [l0, l1, l2] st σ r else Ev L xs ρ 205 71 [l0, l1, l2] st σ r := ev_icle cm_205 dX11_sums_68 (by decide)
theorem x205_71 : Ev L xs ρ 205 71 [some (.ref a), l1, l2] st σ r ↔ Ev L xs ρ 205 72 [some (.ref a), l1, l2] (.ref a :: st) σ r := ev_aload_n cm_205 dX11_sums_71 rfl rfl
theorem x205_72 : Ev L xs 5 205 72 [l0, l1, l2] (.ref a :: []) (n, I, Lm, Rm) r ↔ (a < n ∧ shp a = (0, 11)) ∧ ∃ v n2 I2 L2 R2, Em L xs 199 [.ref a] (n, I, Lm, Rm) (v, n2, I2, L2, R2) ∧ Ev L xs 5 205 75 [l0, l1, l2] (v.toList ++ []) (n2, I2, L2, R2) r := ev_cV cm_205 [] dX11_sums_72 rfl rfl rfl rfl (Nat.le_of_ble_eq_true rfl) (rka_lt rfl (by decide)) (Nat.le_of_ble_eq_true rfl)
theorem x205_75 : Ev L xs ρ 205 75 [l0, l1, l2] st σ r ↔ Ev L xs ρ 205 53 [l0, l1, l2] st σ r := ev_goto cm_205 dX11_sums_75 (by decide)
theorem x205_78 : Ev L xs ρ 205 78 [some (.ref a), l1, l2] st σ r ↔ Ev L xs ρ 205 79 [some (.ref a), l1, l2] (.ref a :: st) σ r := ev_aload_n cm_205 dX11_sums_78 rfl rfl
theorem x205_79 : Ev L xs ρ 205 79 [l0, some (.int x), l2] st σ r ↔ Ev L xs ρ 205 80 [l0, some (.int x), l2] (.int x :: st) σ r := ev_iload_n cm_205 dX11_sums_79 rfl rfl
theorem x205_80 : Ev L xs ρ 205 80 [l0, l1, l2] (.int x :: .ref a :: st) (n, I, Lm, Rm) r ↔ (a < n ∧ shp a = (0, 11)) ∧ Ev L xs ρ 205 83 [l0, l1, l2] st (n, up2 I a 65 x, Lm, Rm) r := ev_ptI cm_205 dX11_sums_80 rfl rfl (Or.inl rfl)
theorem x205_83 : Ev L xs ρ 205 83 [l0, l1, l2] [] σ r ↔ r = (none, σ) := ev_retv cm_205 dX11_sums_83 rfl
theorem cm_206 : mcd 206 = cX11_fact := rfl
theorem em_206 : Em L xs 206 [.ref a] σ r ↔ Ev L xs 6 206 0 [some (.ref a), none] [] σ r := Iff.rfl
theorem x206_0 : Ev L xs ρ 206 0 [some (.ref a), l1] st σ r ↔ Ev L xs ρ 206 1 [some (.ref a), l1] (.ref a :: st) σ r := ev_aload_n cm_206 dX11_fact_0 rfl rfl
theorem x206_1 : Ev L xs ρ 206 1 [some (.ref a), l1] st σ r ↔ Ev L xs ρ 206 2 [some (.ref a), l1] (.ref a :: st) σ r := ev_aload_n cm_206 dX11_fact_1 rfl rfl
theorem x206_2 : Ev L xs ρ 206 2 [l0, l1] (.ref a :: st) (n, I, Lm, Rm) r ↔ (a < n ∧ shp a = (0, 11)) ∧ Ev L xs ρ 206 5 [l0, l1] (rfv (Rm a 32) :: st) (n, I, Lm, Rm) r := ev_gtR cm_206 dX11_fact_2 rfl rfl
theorem x206_5 : Ev L xs 6 206 5 [l0, l1] (.ref b :: .ref a :: []) (n, I, Lm, Rm) r ↔ (a < n ∧ shp a = (0, 11)) ∧ ∃ v n2 I2 L2 R2, Em L xs 175 [.ref a, .ref b] (n, I, Lm, Rm) (v, n2, I2, L2, R2) ∧ Ev L xs 6 206 8 [l0, l1] (v.toList ++ []) (n2, I2, L2, R2) r := ev_cV cm_206 [.ref b] dX11_fact_5 rfl rfl rfl rfl (Nat.le_of_ble_eq_true rfl) (rka_lt rfl (by decide)) (Nat.le_of_ble_eq_true rfl)
theorem x206_8 : Ev L xs ρ 206 8 [l0, l1] (.int x :: st) σ r ↔ if x = 0 then Ev L xs ρ 206 18 [l0, l1] st σ r else Ev L xs ρ 206 11 [l0, l1] st σ r := ev_ifeq cm_206 dX11_fact_8 (by decide)
theorem x206_11 : Ev L xs ρ 206 11 [some (.ref a), l1] st σ r ↔ Ev L xs ρ 206 12 [some (.ref a), l1] (.ref a :: st) σ r := ev_aload_n cm_206 dX11_fact_11 rfl rfl
theorem x206_12 : Ev L xs ρ 206 12 [l0, l1] st σ r ↔ Ev L xs ρ 206 14 [l0, l1] (.int (17) :: st) σ r := ev_bipush cm_206 dX11_fact_12 (by decide)
theorem x206_14 : Ev L xs 6 206 14 [l0, l1] (.int x :: .ref a :: []) (n, I, Lm, Rm) r ↔ (a < n ∧ shp a = (0, 11)) ∧ ∃ v n2 I2 L2 R2, Em L xs 196 [.ref a, .int x] (n, I, Lm, Rm) (v, n2, I2, L2, R2) ∧ Ev L xs 6 206 17 [l0, l1] (v.toList ++ []) (n2, I2, L2, R2) r := ev_cV cm_206 [.int x] dX11_fact_14 rfl rfl rfl rfl (Nat.le_of_ble_eq_true rfl) (rka_lt rfl (by decide)) (Nat.le_of_ble_eq_true rfl)
theorem x206_17 : Ev L xs ρ 206 17 [l0, l1] [] σ r ↔ r = (none, σ) := ev_retv cm_206 dX11_fact_17 rfl
theorem x206_18 : Ev L xs ρ 206 18 [some (.ref a), l1] st σ r ↔ Ev L xs ρ 206 19 [some (.ref a), l1] (.ref a :: st) σ r := ev_aload_n cm_206 dX11_fact_18 rfl rfl
theorem x206_19 : Ev L xs 6 206 19 [l0, l1] (.ref a :: []) (n, I, Lm, Rm) r ↔ (a < n ∧ shp a = (0, 11)) ∧ ∃ v n2 I2 L2 R2, Em L xs 205 [.ref a] (n, I, Lm, Rm) (v, n2, I2, L2, R2) ∧ Ev L xs 6 206 22 [l0, l1] (v.toList ++ []) (n2, I2, L2, R2) r := ev_cV cm_206 [] dX11_fact_19 rfl rfl rfl rfl (Nat.le_of_ble_eq_true rfl) (rka_lt rfl (by decide)) (Nat.le_of_ble_eq_true rfl)
theorem x206_22 : Ev L xs ρ 206 22 [some (.ref a), l1] st σ r ↔ Ev L xs ρ 206 23 [some (.ref a), l1] (.ref a :: st) σ r := ev_aload_n cm_206 dX11_fact_22 rfl rfl
theorem x206_23 : Ev L xs ρ 206 23 [l0, l1] (.ref a :: st) (n, I, Lm, Rm) r ↔ (a < n ∧ shp a = (0, 11)) ∧ Ev L xs ρ 206 26 [l0, l1] (.int (I a 5) :: st) (n, I, Lm, Rm) r := ev_gtI cm_206 dX11_fact_23 rfl rfl
theorem x206_26 : Ev L xs ρ 206 26 [l0, l1] (.int x :: st) σ r ↔ if x = 0 then Ev L xs ρ 206 30 [l0, l1] st σ r else Ev L xs ρ 206 29 [l0, l1] st σ r := ev_ifeq cm_206 dX11_fact_26 (by decide)
theorem x206_29 : Ev L xs ρ 206 29 [l0, l1] [] σ r ↔ r = (none, σ) := ev_retv cm_206 dX11_fact_29 rfl
theorem x206_30 : Ev L xs ρ 206 30 [some (.ref a), l1] st σ r ↔ Ev L xs ρ 206 31 [some (.ref a), l1] (.ref a :: st) σ r := ev_aload_n cm_206 dX11_fact_30 rfl rfl
theorem x206_31 : Ev L xs 6 206 31 [l0, l1] (.ref a :: []) (n, I, Lm, Rm) r ↔ (a < n ∧ shp a = (0, 11)) ∧ ∃ v n2 I2 L2 R2, Em L xs 173 [.ref a] (n, I, Lm, Rm) (v, n2, I2, L2, R2) ∧ Ev L xs 6 206 34 [l0, l1] (v.toList ++ []) (n2, I2, L2, R2) r := ev_cV cm_206 [] dX11_fact_31 rfl rfl rfl rfl (Nat.le_of_ble_eq_true rfl) (rka_lt rfl (by decide)) (Nat.le_of_ble_eq_true rfl)
theorem x206_34 : Ev L xs ρ 206 34 [l0, l1] (.int x :: st) σ r ↔ Ev L xs ρ 206 35 [l0, some (.int x)] st σ r := ev_istore_n cm_206 dX11_fact_34 rfl (Nat.le_of_ble_eq_true rfl)
theorem x206_35 : Ev L xs ρ 206 35 [l0, some (.int x)] st σ r ↔ Ev L xs ρ 206 36 [l0, some (.int x)] (.int x :: st) σ r := ev_iload_n cm_206 dX11_fact_35 rfl rfl
theorem x206_36 : Ev L xs ρ 206 36 [l0, l1] st σ r ↔ Ev L xs ρ 206 38 [l0, l1] (.int (60) :: st) σ r := ev_bipush cm_206 dX11_fact_36 (by decide)
theorem x206_38 : Ev L xs ρ 206 38 [l0, l1] (.int y :: .int x :: st) σ r ↔ if x = y then Ev L xs ρ 206 63 [l0, l1] st σ r else Ev L xs ρ 206 41 [l0, l1] st σ r := ev_iceq cm_206 dX11_fact_38 (by decide)
theorem x206_41 : Ev L xs ρ 206 41 [l0, some (.int x)] st σ r ↔ Ev L xs ρ 206 42 [l0, some (.int x)] (.int x :: st) σ r := ev_iload_n cm_206 dX11_fact_41 rfl rfl
theorem x206_42 : Ev L xs ρ 206 42 [l0, l1] st σ r ↔ Ev L xs ρ 206 44 [l0, l1] (.int (62) :: st) σ r := ev_bipush cm_206 dX11_fact_42 (by decide)
theorem x206_44 : Ev L xs ρ 206 44 [l0, l1] (.int y :: .int x :: st) σ r ↔ if x = y then Ev L xs ρ 206 63 [l0, l1] st σ r else Ev L xs ρ 206 47 [l0, l1] st σ r := ev_iceq cm_206 dX11_fact_44 (by decide)
theorem x206_47 : Ev L xs ρ 206 47 [l0, some (.int x)] st σ r ↔ Ev L xs ρ 206 48 [l0, some (.int x)] (.int x :: st) σ r := ev_iload_n cm_206 dX11_fact_47 rfl rfl
theorem x206_48 : Ev L xs ρ 206 48 [l0, l1] st σ r ↔ Ev L xs ρ 206 50 [l0, l1] (.int (61) :: st) σ r := ev_bipush cm_206 dX11_fact_48 (by decide)
theorem x206_50 : Ev L xs ρ 206 50 [l0, l1] (.int y :: .int x :: st) σ r ↔ if x = y then Ev L xs ρ 206 63 [l0, l1] st σ r else Ev L xs ρ 206 53 [l0, l1] st σ r := ev_iceq cm_206 dX11_fact_50 (by decide)
theorem x206_53 : Ev L xs ρ 206 53 [some (.ref a), l1] st σ r ↔ Ev L xs ρ 206 54 [some (.ref a), l1] (.ref a :: st) σ r := ev_aload_n cm_206 dX11_fact_53 rfl rfl
theorem x206_54 : Ev L xs ρ 206 54 [l0, l1] st σ r ↔ Ev L xs ρ 206 55 [l0, l1] (.int (1) :: st) σ r := ev_iconst cm_206 dX11_fact_54 (by decide)
theorem x206_55 : Ev L xs ρ 206 55 [some (.ref a), l1] st σ r ↔ Ev L xs ρ 206 56 [some (.ref a), l1] (.ref a :: st) σ r := ev_aload_n cm_206 dX11_fact_55 rfl rfl
theorem x206_56 : Ev L xs ρ 206 56 [l0, l1] (.ref a :: st) (n, I, Lm, Rm) r ↔ (a < n ∧ shp a = (0, 11)) ∧ Ev L xs ρ 206 59 [l0, l1] (.int (I a 2) :: st) (n, I, Lm, Rm) r := ev_gtI cm_206 dX11_fact_56 rfl rfl
theorem x206_59 : Ev L xs 6 206 59 [l0, l1] (.int y :: .int x :: .ref a :: []) (n, I, Lm, Rm) r ↔ (a < n ∧ shp a = (0, 11)) ∧ ∃ v n2 I2 L2 R2, Em L xs 170 [.ref a, .int x, .int y] (n, I, Lm, Rm) (v, n2, I2, L2, R2) ∧ Ev L xs 6 206 62 [l0, l1] (v.toList ++ []) (n2, I2, L2, R2) r := ev_cV cm_206 [.int x, .int y] dX11_fact_59 rfl rfl rfl rfl (Nat.le_of_ble_eq_true rfl) (rka_lt rfl (by decide)) (Nat.le_of_ble_eq_true rfl)
theorem x206_62 : Ev L xs ρ 206 62 [l0, l1] [] σ r ↔ r = (none, σ) := ev_retv cm_206 dX11_fact_62 rfl
theorem x206_63 : Ev L xs ρ 206 63 [some (.ref a), l1] st σ r ↔ Ev L xs ρ 206 64 [some (.ref a), l1] (.ref a :: st) σ r := ev_aload_n cm_206 dX11_fact_63 rfl rfl
theorem x206_64 : Ev L xs ρ 206 64 [l0, l1] (.ref a :: st) σ r ↔ Ev L xs ρ 206 65 [l0, l1] (.ref a :: .ref a :: st) σ r := ev_nx (ev_ex cm_206 dX11_fact_64 rfl rfl)
theorem x206_65 : Ev L xs ρ 206 65 [l0, l1] (.ref a :: st) (n, I, Lm, Rm) r ↔ (a < n ∧ shp a = (0, 11)) ∧ Ev L xs ρ 206 68 [l0, l1] (.int (I a 2) :: st) (n, I, Lm, Rm) r := ev_gtI cm_206 dX11_fact_65 rfl rfl
theorem x206_68 : Ev L xs ρ 206 68 [l0, l1] st σ r ↔ Ev L xs ρ 206 69 [l0, l1] (.int (1) :: st) σ r := ev_iconst cm_206 dX11_fact_68 (by decide)
theorem x206_69 : Ev L xs ρ 206 69 [l0, l1] (.int y :: .int x :: st) σ r ↔ Ev L xs ρ 206 70 [l0, l1] (.int (x + y) :: st) σ r := ev_nx (ev_ex cm_206 dX11_fact_69 rfl rfl)
theorem x206_70 : Ev L xs ρ 206 70 [l0, l1] (.int x :: .ref a :: st) (n, I, Lm, Rm) r ↔ (a < n ∧ shp a = (0, 11)) ∧ Ev L xs ρ 206 73 [l0, l1] st (n, up2 I a 2 x, Lm, Rm) r := ev_ptI cm_206 dX11_fact_70 rfl rfl (Or.inl rfl)
theorem x206_73 : Ev L xs ρ 206 73 [some (.ref a), l1] st σ r ↔ Ev L xs ρ 206 74 [some (.ref a), l1] (.ref a :: st) σ r := ev_aload_n cm_206 dX11_fact_73 rfl rfl
theorem x206_74 : Ev L xs 6 206 74 [l0, l1] (.ref a :: []) (n, I, Lm, Rm) r ↔ (a < n ∧ shp a = (0, 11)) ∧ ∃ v n2 I2 L2 R2, Em L xs 205 [.ref a] (n, I, Lm, Rm) (v, n2, I2, L2, R2) ∧ Ev L xs 6 206 77 [l0, l1] (v.toList ++ []) (n2, I2, L2, R2) r := ev_cV cm_206 [] dX11_fact_74 rfl rfl rfl rfl (Nat.le_of_ble_eq_true rfl) (rka_lt rfl (by decide)) (Nat.le_of_ble_eq_true rfl)
theorem x206_77 : Ev L xs ρ 206 77 [some (.ref a), l1] st σ r ↔ Ev L xs ρ 206 78 [some (.ref a), l1] (.ref a :: st) σ r := ev_aload_n cm_206 dX11_fact_77 rfl rfl
theorem x206_78 : Ev L xs ρ 206 78 [l0, some (.int x)] st σ r ↔ Ev L xs ρ 206 79 [l0, some (.int x)] (.int x :: st) σ r := ev_iload_n cm_206 dX11_fact_78 rfl rfl
theorem x206_79 : Ev L xs ρ 206 79 [l0, l1] st σ r ↔ Ev L xs ρ 206 81 [l0, l1] (.int (60) :: st) σ r := ev_bipush cm_206 dX11_fact_79 (by decide)
theorem x206_81 : Ev L xs ρ 206 81 [l0, l1] (.int y :: .int x :: st) σ r ↔ if x = y then Ev L xs ρ 206 84 [l0, l1] st σ r else Ev L xs ρ 206 89 [l0, l1] st σ r := ev_icne cm_206 dX11_fact_81 (by decide)
theorem x206_84 : Ev L xs ρ 206 84 [l0, l1] st σ r ↔ Ev L xs ρ 206 86 [l0, l1] (.int (11) :: st) σ r := ev_bipush cm_206 dX11_fact_84 (by decide)
theorem x206_86 : Ev L xs ρ 206 86 [l0, l1] st σ r ↔ Ev L xs ρ 206 102 [l0, l1] st σ r := ev_goto cm_206 dX11_fact_86 (by decide)
theorem x206_89 : Ev L xs ρ 206 89 [l0, some (.int x)] st σ r ↔ Ev L xs ρ 206 90 [l0, some (.int x)] (.int x :: st) σ r := ev_iload_n cm_206 dX11_fact_89 rfl rfl
theorem x206_90 : Ev L xs ρ 206 90 [l0, l1] st σ r ↔ Ev L xs ρ 206 92 [l0, l1] (.int (62) :: st) σ r := ev_bipush cm_206 dX11_fact_90 (by decide)
theorem x206_92 : Ev L xs ρ 206 92 [l0, l1] (.int y :: .int x :: st) σ r ↔ if x = y then Ev L xs ρ 206 95 [l0, l1] st σ r else Ev L xs ρ 206 100 [l0, l1] st σ r := ev_icne cm_206 dX11_fact_92 (by decide)
theorem x206_95 : Ev L xs ρ 206 95 [l0, l1] st σ r ↔ Ev L xs ρ 206 97 [l0, l1] (.int (12) :: st) σ r := ev_bipush cm_206 dX11_fact_95 (by decide)
theorem x206_97 : Ev L xs ρ 206 97 [l0, l1] st σ r ↔ Ev L xs ρ 206 102 [l0, l1] st σ r := ev_goto cm_206 dX11_fact_97 (by decide)
theorem x206_100 : Ev L xs ρ 206 100 [l0, l1] st σ r ↔ Ev L xs ρ 206 102 [l0, l1] (.int (13) :: st) σ r := ev_bipush cm_206 dX11_fact_100 (by decide)
theorem x206_102 : Ev L xs 6 206 102 [l0, l1] (.int x :: .ref a :: []) (n, I, Lm, Rm) r ↔ (a < n ∧ shp a = (0, 11)) ∧ ∃ v n2 I2 L2 R2, Em L xs 196 [.ref a, .int x] (n, I, Lm, Rm) (v, n2, I2, L2, R2) ∧ Ev L xs 6 206 105 [l0, l1] (v.toList ++ []) (n2, I2, L2, R2) r := ev_cV cm_206 [.int x] dX11_fact_102 rfl rfl rfl rfl (Nat.le_of_ble_eq_true rfl) (rka_lt rfl (by decide)) (Nat.le_of_ble_eq_true rfl)
theorem x206_105 : Ev L xs ρ 206 105 [l0, l1] [] σ r ↔ r = (none, σ) := ev_retv cm_206 dX11_fact_105 rfl
theorem cm_207 : mcd 207 = cX11_hasSquare := rfl
theorem em_207 : Em L xs 207 [.ref a] σ r ↔ Ev L xs 0 207 0 [some (.ref a), none] [] σ r := Iff.rfl
theorem x207_0 : Ev L xs ρ 207 0 [l0, l1] st σ r ↔ Ev L xs ρ 207 1 [l0, l1] (.int (0) :: st) σ r := ev_iconst cm_207 dX11_hasSquare_0 (by decide)
theorem x207_1 : Ev L xs ρ 207 1 [l0, l1] (.int x :: st) σ r ↔ Ev L xs ρ 207 2 [l0, some (.int x)] st σ r := ev_istore_n cm_207 dX11_hasSquare_1 rfl (Nat.le_of_ble_eq_true rfl)
theorem x207_2 : Ev L xs ρ 207 2 [l0, some (.int x)] st σ r ↔ Ev L xs ρ 207 3 [l0, some (.int x)] (.int x :: st) σ r := ev_iload_n cm_207 dX11_hasSquare_2 rfl rfl
theorem x207_3 : Ev L xs ρ 207 3 [some (.ref a), l1] st σ r ↔ Ev L xs ρ 207 4 [some (.ref a), l1] (.ref a :: st) σ r := ev_aload_n cm_207 dX11_hasSquare_3 rfl rfl
theorem x207_4 : Ev L xs ρ 207 4 [l0, l1] (.ref a :: st) (n, I, Lm, Rm) r ↔ (a < n ∧ shp a = (0, 11)) ∧ Ev L xs ρ 207 7 [l0, l1] (.int (I a 58) :: st) (n, I, Lm, Rm) r := ev_gtI cm_207 dX11_hasSquare_4 rfl rfl
theorem x207_7 : Ev L xs ρ 207 7 [l0, l1] (.int y :: .int x :: st) σ r ↔ if y ≤ x then Ev L xs ρ 207 29 [l0, l1] st σ r else Ev L xs ρ 207 10 [l0, l1] st σ r := ev_icge cm_207 dX11_hasSquare_7 (by decide)
theorem x207_10 : Ev L xs ρ 207 10 [some (.ref a), l1] st σ r ↔ Ev L xs ρ 207 11 [some (.ref a), l1] (.ref a :: st) σ r := ev_aload_n cm_207 dX11_hasSquare_10 rfl rfl
theorem x207_11 : Ev L xs ρ 207 11 [l0, l1] (.ref a :: st) (n, I, Lm, Rm) r ↔ (a < n ∧ shp a = (0, 11)) ∧ Ev L xs ρ 207 14 [l0, l1] (rfv (Rm a 57) :: st) (n, I, Lm, Rm) r := ev_gtR cm_207 dX11_hasSquare_11 rfl rfl
theorem x207_14 : Ev L xs ρ 207 14 [l0, some (.int x)] st σ r ↔ Ev L xs ρ 207 15 [l0, some (.int x)] (.int x :: st) σ r := ev_iload_n cm_207 dX11_hasSquare_14 rfl rfl
theorem x207_15 : Ev L xs ρ 207 15 [l0, l1] (.int x :: .ref a :: st) (n, I, Lm, Rm) r ↔ ((a < n ∧ (shp a).1 = 1) ∧ inb x (shp a).2) ∧ Ev L xs ρ 207 16 [l0, l1] (.int (I a (ixn x)) :: st) (n, I, Lm, Rm) r := ev_iald cm_207 dX11_hasSquare_15 (by decide)
theorem x207_16 : Ev L xs ρ 207 16 [l0, l1] st σ r ↔ Ev L xs ρ 207 18 [l0, l1] (.int (25) :: st) σ r := ev_bipush cm_207 dX11_hasSquare_16 (by decide)
theorem x207_18 : Ev L xs ρ 207 18 [l0, l1] (.int y :: .int x :: st) σ r ↔ if x = y then Ev L xs ρ 207 21 [l0, l1] st σ r else Ev L xs ρ 207 23 [l0, l1] st σ r := ev_icne cm_207 dX11_hasSquare_18 (by decide)
theorem x207_21 : Ev L xs ρ 207 21 [l0, l1] st σ r ↔ Ev L xs ρ 207 22 [l0, l1] (.int (1) :: st) σ r := ev_iconst cm_207 dX11_hasSquare_21 (by decide)
theorem x207_22 : Ev L xs ρ 207 22 [l0, l1] [.int x] σ r ↔ (x = 0 ∨ x = 1) ∧ r = (some (.int x), σ) := ev_retz cm_207 dX11_hasSquare_22 rfl
theorem x207_23 : Ev L xs ρ 207 23 [l0, some (.int x)] st σ r ↔ Ev L xs ρ 207 26 [l0, some (.int (x + (1)))] st σ r := ev_iinc cm_207 dX11_hasSquare_23 rfl (by decide)
theorem x207_26 : Ev L xs ρ 207 26 [l0, l1] st σ r ↔ Ev L xs ρ 207 2 [l0, l1] st σ r := ev_goto cm_207 dX11_hasSquare_26 (by decide)
theorem x207_29 : Ev L xs ρ 207 29 [l0, l1] st σ r ↔ Ev L xs ρ 207 30 [l0, l1] (.int (0) :: st) σ r := ev_iconst cm_207 dX11_hasSquare_29 (by decide)
theorem x207_30 : Ev L xs ρ 207 30 [l0, l1] [.int x] σ r ↔ (x = 0 ∨ x = 1) ∧ r = (some (.int x), σ) := ev_retz cm_207 dX11_hasSquare_30 rfl
theorem cm_208 : mcd 208 = cX11_dropsNots := rfl
theorem em_208 : Em L xs 208 [.ref a] σ r ↔ Ev L xs 2 208 0 [some (.ref a)] [] σ r := Iff.rfl
theorem x208_0 : Ev L xs ρ 208 0 [some (.ref a)] st σ r ↔ Ev L xs ρ 208 1 [some (.ref a)] (.ref a :: st) σ r := ev_aload_n cm_208 dX11_dropsNots_0 rfl rfl
theorem x208_1 : Ev L xs ρ 208 1 [l0] (.ref a :: st) (n, I, Lm, Rm) r ↔ (a < n ∧ shp a = (0, 11)) ∧ Ev L xs ρ 208 4 [l0] (.int (I a 5) :: st) (n, I, Lm, Rm) r := ev_gtI cm_208 dX11_dropsNots_1 rfl rfl
theorem x208_4 : Ev L xs ρ 208 4 [l0] (.int x :: st) σ r ↔ if x = 0 then Ev L xs ρ 208 7 [l0] st σ r else Ev L xs ρ 208 33 [l0] st σ r := ev_ifne cm_208 dX11_dropsNots_4 (by decide)
theorem x208_7 : Ev L xs ρ 208 7 [some (.ref a)] st σ r ↔ Ev L xs ρ 208 8 [some (.ref a)] (.ref a :: st) σ r := ev_aload_n cm_208 dX11_dropsNots_7 rfl rfl
theorem x208_8 : Ev L xs ρ 208 8 [l0] st σ r ↔ Ev L xs ρ 208 10 [l0] (.int (16) :: st) σ r := ev_bipush cm_208 dX11_dropsNots_8 (by decide)
theorem x208_10 : Ev L xs 2 208 10 [l0] (.int x :: .ref a :: []) (n, I, Lm, Rm) r ↔ (a < n ∧ shp a = (0, 11)) ∧ ∃ v n2 I2 L2 R2, Em L xs 198 [.ref a, .int x] (n, I, Lm, Rm) (v, n2, I2, L2, R2) ∧ Ev L xs 2 208 13 [l0] (v.toList ++ []) (n2, I2, L2, R2) r := ev_cV cm_208 [.int x] dX11_dropsNots_10 rfl rfl rfl rfl (Nat.le_of_ble_eq_true rfl) (rka_lt rfl (by decide)) (Nat.le_of_ble_eq_true rfl)
theorem x208_13 : Ev L xs ρ 208 13 [l0] (.int x :: st) σ r ↔ if x = 0 then Ev L xs ρ 208 33 [l0] st σ r else Ev L xs ρ 208 16 [l0] st σ r := ev_ifeq cm_208 dX11_dropsNots_13 (by decide)
theorem x208_16 : Ev L xs ρ 208 16 [some (.ref a)] st σ r ↔ Ev L xs ρ 208 17 [some (.ref a)] (.ref a :: st) σ r := ev_aload_n cm_208 dX11_dropsNots_16 rfl rfl
theorem x208_17 : Ev L xs ρ 208 17 [l0] (.ref a :: st) σ r ↔ Ev L xs ρ 208 18 [l0] (.ref a :: .ref a :: st) σ r := ev_nx (ev_ex cm_208 dX11_dropsNots_17 rfl rfl)
theorem x208_18 : Ev L xs ρ 208 18 [l0] (.ref a :: st) (n, I, Lm, Rm) r ↔ (a < n ∧ shp a = (0, 11)) ∧ Ev L xs ρ 208 21 [l0] (.int (I a 59) :: st) (n, I, Lm, Rm) r := ev_gtI cm_208 dX11_dropsNots_18 rfl rfl
theorem x208_21 : Ev L xs ρ 208 21 [l0] st σ r ↔ Ev L xs ρ 208 22 [l0] (.int (1) :: st) σ r := ev_iconst cm_208 dX11_dropsNots_21 (by decide)
theorem x208_22 : Ev L xs ρ 208 22 [l0] (.int y :: .int x :: st) σ r ↔ Ev L xs ρ 208 23 [l0] (.int (x - y) :: st) σ r := ev_nx (ev_ex cm_208 dX11_dropsNots_22 rfl rfl)
theorem x208_23 : Ev L xs ρ 208 23 [l0] (.int x :: .ref a :: st) (n, I, Lm, Rm) r ↔ (a < n ∧ shp a = (0, 11)) ∧ Ev L xs ρ 208 26 [l0] st (n, up2 I a 59 x, Lm, Rm) r := ev_ptI cm_208 dX11_dropsNots_23 rfl rfl (Or.inl rfl)
theorem x208_26 : Ev L xs ρ 208 26 [some (.ref a)] st σ r ↔ Ev L xs ρ 208 27 [some (.ref a)] (.ref a :: st) σ r := ev_aload_n cm_208 dX11_dropsNots_26 rfl rfl
theorem x208_27 : Ev L xs 2 208 27 [l0] (.ref a :: []) (n, I, Lm, Rm) r ↔ (a < n ∧ shp a = (0, 11)) ∧ ∃ v n2 I2 L2 R2, Em L xs 199 [.ref a] (n, I, Lm, Rm) (v, n2, I2, L2, R2) ∧ Ev L xs 2 208 30 [l0] (v.toList ++ []) (n2, I2, L2, R2) r := ev_cV cm_208 [] dX11_dropsNots_27 rfl rfl rfl rfl (Nat.le_of_ble_eq_true rfl) (rka_lt rfl (by decide)) (Nat.le_of_ble_eq_true rfl)
theorem x208_30 : Ev L xs ρ 208 30 [l0] st σ r ↔ Ev L xs ρ 208 0 [l0] st σ r := ev_goto cm_208 dX11_dropsNots_30 (by decide)
theorem x208_33 : Ev L xs ρ 208 33 [l0] [] σ r ↔ r = (none, σ) := ev_retv cm_208 dX11_dropsNots_33 rfl
theorem cm_209 : mcd 209 = cX11_test := rfl
theorem em_209 : Em L xs 209 [.ref a] σ r ↔ Ev L xs 7 209 0 [some (.ref a), none, none] [] σ r := Iff.rfl
theorem x209_0 : Ev L xs ρ 209 0 [l0, l1, l2] st σ r ↔ Ev L xs ρ 209 1 [l0, l1, l2] (.int (1) :: st) σ r := ev_iconst cm_209 dX11_test_0 (by decide)
theorem x209_1 : Ev L xs ρ 209 1 [l0, l1, l2] (.int x :: st) σ r ↔ Ev L xs ρ 209 2 [l0, some (.int x), l2] st σ r := ev_istore_n cm_209 dX11_test_1 rfl (Nat.le_of_ble_eq_true rfl)
theorem x209_2 : Ev L xs ρ 209 2 [l0, some (.int x), l2] st σ r ↔ Ev L xs ρ 209 3 [l0, some (.int x), l2] (.int x :: st) σ r := ev_iload_n cm_209 dX11_test_2 rfl rfl
theorem x209_3 : Ev L xs ρ 209 3 [l0, l1, l2] (.int x :: st) σ r ↔ if x = 0 then Ev L xs ρ 209 110 [l0, l1, l2] st σ r else Ev L xs ρ 209 6 [l0, l1, l2] st σ r := ev_ifeq cm_209 dX11_test_3 (by decide)
theorem x209_6 : Ev L xs ρ 209 6 [some (.ref a), l1, l2] st σ r ↔ Ev L xs ρ 209 7 [some (.ref a), l1, l2] (.ref a :: st) σ r := ev_aload_n cm_209 dX11_test_6 rfl rfl
theorem x209_7 : Ev L xs ρ 209 7 [l0, l1, l2] (.ref a :: st) (n, I, Lm, Rm) r ↔ (a < n ∧ shp a = (0, 11)) ∧ Ev L xs ρ 209 10 [l0, l1, l2] (.int (I a 5) :: st) (n, I, Lm, Rm) r := ev_gtI cm_209 dX11_test_7 rfl rfl
theorem x209_10 : Ev L xs ρ 209 10 [l0, l1, l2] (.int x :: st) σ r ↔ if x = 0 then Ev L xs ρ 209 13 [l0, l1, l2] st σ r else Ev L xs ρ 209 110 [l0, l1, l2] st σ r := ev_ifne cm_209 dX11_test_10 (by decide)
theorem x209_13 : Ev L xs ρ 209 13 [some (.ref a), l1, l2] st σ r ↔ Ev L xs ρ 209 14 [some (.ref a), l1, l2] (.ref a :: st) σ r := ev_aload_n cm_209 dX11_test_13 rfl rfl
theorem x209_14 : Ev L xs 7 209 14 [l0, l1, l2] (.ref a :: []) (n, I, Lm, Rm) r ↔ (a < n ∧ shp a = (0, 11)) ∧ ∃ v n2 I2 L2 R2, Em L xs 173 [.ref a] (n, I, Lm, Rm) (v, n2, I2, L2, R2) ∧ Ev L xs 7 209 17 [l0, l1, l2] (v.toList ++ []) (n2, I2, L2, R2) r := ev_cV cm_209 [] dX11_test_14 rfl rfl rfl rfl (Nat.le_of_ble_eq_true rfl) (rka_lt rfl (by decide)) (Nat.le_of_ble_eq_true rfl)
theorem x209_17 : Ev L xs ρ 209 17 [l0, l1, l2] (.int x :: st) σ r ↔ Ev L xs ρ 209 18 [l0, l1, some (.int x)] st σ r := ev_istore_n cm_209 dX11_test_17 rfl (Nat.le_of_ble_eq_true rfl)
theorem x209_18 : Ev L xs ρ 209 18 [l0, l1, some (.int x)] st σ r ↔ Ev L xs ρ 209 19 [l0, l1, some (.int x)] (.int x :: st) σ r := ev_iload_n cm_209 dX11_test_18 rfl rfl
theorem x209_19 : Ev L xs ρ 209 19 [l0, l1, l2] st σ r ↔ Ev L xs ρ 209 21 [l0, l1, l2] (.int (91) :: st) σ r := ev_bipush cm_209 dX11_test_19 (by decide)
theorem x209_21 : Ev L xs ρ 209 21 [l0, l1, l2] (.int y :: .int x :: st) σ r ↔ if x = y then Ev L xs ρ 209 24 [l0, l1, l2] st σ r else Ev L xs ρ 209 47 [l0, l1, l2] st σ r := ev_icne cm_209 dX11_test_21 (by decide)
theorem x209_24 : Ev L xs ρ 209 24 [some (.ref a), l1, l2] st σ r ↔ Ev L xs ρ 209 25 [some (.ref a), l1, l2] (.ref a :: st) σ r := ev_aload_n cm_209 dX11_test_24 rfl rfl
theorem x209_25 : Ev L xs ρ 209 25 [l0, l1, l2] st σ r ↔ Ev L xs ρ 209 27 [l0, l1, l2] (.int (25) :: st) σ r := ev_bipush cm_209 dX11_test_25 (by decide)
theorem x209_27 : Ev L xs ρ 209 27 [some (.ref a), l1, l2] st σ r ↔ Ev L xs ρ 209 28 [some (.ref a), l1, l2] (.ref a :: st) σ r := ev_aload_n cm_209 dX11_test_27 rfl rfl
theorem x209_28 : Ev L xs ρ 209 28 [l0, l1, l2] (.ref a :: st) (n, I, Lm, Rm) r ↔ (a < n ∧ shp a = (0, 11)) ∧ Ev L xs ρ 209 31 [l0, l1, l2] (.int (I a 2) :: st) (n, I, Lm, Rm) r := ev_gtI cm_209 dX11_test_28 rfl rfl
theorem x209_31 : Ev L xs 7 209 31 [l0, l1, l2] (.int y :: .int x :: .ref a :: []) (n, I, Lm, Rm) r ↔ (a < n ∧ shp a = (0, 11)) ∧ ∃ v n2 I2 L2 R2, Em L xs 197 [.ref a, .int x, .int y] (n, I, Lm, Rm) (v, n2, I2, L2, R2) ∧ Ev L xs 7 209 34 [l0, l1, l2] (v.toList ++ []) (n2, I2, L2, R2) r := ev_cV cm_209 [.int x, .int y] dX11_test_31 rfl rfl rfl rfl (Nat.le_of_ble_eq_true rfl) (rka_lt rfl (by decide)) (Nat.le_of_ble_eq_true rfl)
theorem x209_34 : Ev L xs ρ 209 34 [some (.ref a), l1, l2] st σ r ↔ Ev L xs ρ 209 35 [some (.ref a), l1, l2] (.ref a :: st) σ r := ev_aload_n cm_209 dX11_test_34 rfl rfl
theorem x209_35 : Ev L xs ρ 209 35 [l0, l1, l2] (.ref a :: st) σ r ↔ Ev L xs ρ 209 36 [l0, l1, l2] (.ref a :: .ref a :: st) σ r := ev_nx (ev_ex cm_209 dX11_test_35 rfl rfl)
theorem x209_36 : Ev L xs ρ 209 36 [l0, l1, l2] (.ref a :: st) (n, I, Lm, Rm) r ↔ (a < n ∧ shp a = (0, 11)) ∧ Ev L xs ρ 209 39 [l0, l1, l2] (.int (I a 2) :: st) (n, I, Lm, Rm) r := ev_gtI cm_209 dX11_test_36 rfl rfl
theorem x209_39 : Ev L xs ρ 209 39 [l0, l1, l2] st σ r ↔ Ev L xs ρ 209 40 [l0, l1, l2] (.int (1) :: st) σ r := ev_iconst cm_209 dX11_test_39 (by decide)
theorem x209_40 : Ev L xs ρ 209 40 [l0, l1, l2] (.int y :: .int x :: st) σ r ↔ Ev L xs ρ 209 41 [l0, l1, l2] (.int (x + y) :: st) σ r := ev_nx (ev_ex cm_209 dX11_test_40 rfl rfl)
theorem x209_41 : Ev L xs ρ 209 41 [l0, l1, l2] (.int x :: .ref a :: st) (n, I, Lm, Rm) r ↔ (a < n ∧ shp a = (0, 11)) ∧ Ev L xs ρ 209 44 [l0, l1, l2] st (n, up2 I a 2 x, Lm, Rm) r := ev_ptI cm_209 dX11_test_41 rfl rfl (Or.inl rfl)
theorem x209_44 : Ev L xs ρ 209 44 [l0, l1, l2] st σ r ↔ Ev L xs ρ 209 2 [l0, l1, l2] st σ r := ev_goto cm_209 dX11_test_44 (by decide)
theorem x209_47 : Ev L xs ρ 209 47 [some (.ref a), l1, l2] st σ r ↔ Ev L xs ρ 209 48 [some (.ref a), l1, l2] (.ref a :: st) σ r := ev_aload_n cm_209 dX11_test_47 rfl rfl
theorem x209_48 : Ev L xs ρ 209 48 [some (.ref a), l1, l2] st σ r ↔ Ev L xs ρ 209 49 [some (.ref a), l1, l2] (.ref a :: st) σ r := ev_aload_n cm_209 dX11_test_48 rfl rfl
theorem x209_49 : Ev L xs ρ 209 49 [l0, l1, l2] (.ref a :: st) (n, I, Lm, Rm) r ↔ (a < n ∧ shp a = (0, 11)) ∧ Ev L xs ρ 209 52 [l0, l1, l2] (rfv (Rm a 31) :: st) (n, I, Lm, Rm) r := ev_gtR cm_209 dX11_test_49 rfl rfl
theorem x209_52 : Ev L xs 7 209 52 [l0, l1, l2] (.ref b :: .ref a :: []) (n, I, Lm, Rm) r ↔ (a < n ∧ shp a = (0, 11)) ∧ ∃ v n2 I2 L2 R2, Em L xs 174 [.ref a, .ref b] (n, I, Lm, Rm) (v, n2, I2, L2, R2) ∧ Ev L xs 7 209 55 [l0, l1, l2] (v.toList ++ []) (n2, I2, L2, R2) r := ev_cV cm_209 [.ref b] dX11_test_52 rfl rfl rfl rfl (Nat.le_of_ble_eq_true rfl) (rka_lt rfl (by decide)) (Nat.le_of_ble_eq_true rfl)
theorem x209_55 : Ev L xs ρ 209 55 [l0, l1, l2] (.int x :: st) σ r ↔ if x = 0 then Ev L xs ρ 209 79 [l0, l1, l2] st σ r else Ev L xs ρ 209 58 [l0, l1, l2] st σ r := ev_ifeq cm_209 dX11_test_55 (by decide)
theorem x209_58 : Ev L xs ρ 209 58 [some (.ref a), l1, l2] st σ r ↔ Ev L xs ρ 209 59 [some (.ref a), l1, l2] (.ref a :: st) σ r := ev_aload_n cm_209 dX11_test_58 rfl rfl
theorem x209_59 : Ev L xs ρ 209 59 [l0, l1, l2] st σ r ↔ Ev L xs ρ 209 61 [l0, l1, l2] (.int (16) :: st) σ r := ev_bipush cm_209 dX11_test_59 (by decide)
theorem x209_61 : Ev L xs ρ 209 61 [some (.ref a), l1, l2] st σ r ↔ Ev L xs ρ 209 62 [some (.ref a), l1, l2] (.ref a :: st) σ r := ev_aload_n cm_209 dX11_test_61 rfl rfl
theorem x209_62 : Ev L xs ρ 209 62 [l0, l1, l2] (.ref a :: st) (n, I, Lm, Rm) r ↔ (a < n ∧ shp a = (0, 11)) ∧ Ev L xs ρ 209 65 [l0, l1, l2] (.int (I a 2) :: st) (n, I, Lm, Rm) r := ev_gtI cm_209 dX11_test_62 rfl rfl
theorem x209_65 : Ev L xs 7 209 65 [l0, l1, l2] (.int y :: .int x :: .ref a :: []) (n, I, Lm, Rm) r ↔ (a < n ∧ shp a = (0, 11)) ∧ ∃ v n2 I2 L2 R2, Em L xs 197 [.ref a, .int x, .int y] (n, I, Lm, Rm) (v, n2, I2, L2, R2) ∧ Ev L xs 7 209 68 [l0, l1, l2] (v.toList ++ []) (n2, I2, L2, R2) r := ev_cV cm_209 [.int x, .int y] dX11_test_65 rfl rfl rfl rfl (Nat.le_of_ble_eq_true rfl) (rka_lt rfl (by decide)) (Nat.le_of_ble_eq_true rfl)
theorem x209_68 : Ev L xs ρ 209 68 [some (.ref a), l1, l2] st σ r ↔ Ev L xs ρ 209 69 [some (.ref a), l1, l2] (.ref a :: st) σ r := ev_aload_n cm_209 dX11_test_68 rfl rfl
theorem x209_69 : Ev L xs ρ 209 69 [some (.ref a), l1, l2] st σ r ↔ Ev L xs ρ 209 70 [some (.ref a), l1, l2] (.ref a :: st) σ r := ev_aload_n cm_209 dX11_test_69 rfl rfl
theorem x209_70 : Ev L xs ρ 209 70 [l0, l1, l2] (.ref a :: st) (n, I, Lm, Rm) r ↔ (a < n ∧ shp a = (0, 11)) ∧ Ev L xs ρ 209 73 [l0, l1, l2] (rfv (Rm a 31) :: st) (n, I, Lm, Rm) r := ev_gtR cm_209 dX11_test_70 rfl rfl
theorem x209_73 : Ev L xs 7 209 73 [l0, l1, l2] (.ref b :: .ref a :: []) (n, I, Lm, Rm) r ↔ (a < n ∧ shp a = (0, 11)) ∧ ∃ v n2 I2 L2 R2, Em L xs 176 [.ref a, .ref b] (n, I, Lm, Rm) (v, n2, I2, L2, R2) ∧ Ev L xs 7 209 76 [l0, l1, l2] (v.toList ++ []) (n2, I2, L2, R2) r := ev_cV cm_209 [.ref b] dX11_test_73 rfl rfl rfl rfl (Nat.le_of_ble_eq_true rfl) (rka_lt rfl (by decide)) (Nat.le_of_ble_eq_true rfl)
theorem x209_76 : Ev L xs ρ 209 76 [l0, l1, l2] st σ r ↔ Ev L xs ρ 209 2 [l0, l1, l2] st σ r := ev_goto cm_209 dX11_test_76 (by decide)
theorem x209_79 : Ev L xs ρ 209 79 [some (.ref a), l1, l2] st σ r ↔ Ev L xs ρ 209 80 [some (.ref a), l1, l2] (.ref a :: st) σ r := ev_aload_n cm_209 dX11_test_79 rfl rfl
theorem x209_80 : Ev L xs 7 209 80 [l0, l1, l2] (.ref a :: []) (n, I, Lm, Rm) r ↔ (a < n ∧ shp a = (0, 11)) ∧ ∃ v n2 I2 L2 R2, Em L xs 206 [.ref a] (n, I, Lm, Rm) (v, n2, I2, L2, R2) ∧ Ev L xs 7 209 83 [l0, l1, l2] (v.toList ++ []) (n2, I2, L2, R2) r := ev_cV cm_209 [] dX11_test_80 rfl rfl rfl rfl (Nat.le_of_ble_eq_true rfl) (rka_lt rfl (by decide)) (Nat.le_of_ble_eq_true rfl)
theorem x209_83 : Ev L xs ρ 209 83 [some (.ref a), l1, l2] st σ r ↔ Ev L xs ρ 209 84 [some (.ref a), l1, l2] (.ref a :: st) σ r := ev_aload_n cm_209 dX11_test_83 rfl rfl
theorem x209_84 : Ev L xs 7 209 84 [l0, l1, l2] (.ref a :: []) (n, I, Lm, Rm) r ↔ (a < n ∧ shp a = (0, 11)) ∧ ∃ v n2 I2 L2 R2, Em L xs 208 [.ref a] (n, I, Lm, Rm) (v, n2, I2, L2, R2) ∧ Ev L xs 7 209 87 [l0, l1, l2] (v.toList ++ []) (n2, I2, L2, R2) r := ev_cV cm_209 [] dX11_test_84 rfl rfl rfl rfl (Nat.le_of_ble_eq_true rfl) (rka_lt rfl (by decide)) (Nat.le_of_ble_eq_true rfl)
theorem x209_87 : Ev L xs ρ 209 87 [some (.ref a), l1, l2] st σ r ↔ Ev L xs ρ 209 88 [some (.ref a), l1, l2] (.ref a :: st) σ r := ev_aload_n cm_209 dX11_test_87 rfl rfl
theorem x209_88 : Ev L xs ρ 209 88 [l0, l1, l2] (.ref a :: st) (n, I, Lm, Rm) r ↔ (a < n ∧ shp a = (0, 11)) ∧ Ev L xs ρ 209 91 [l0, l1, l2] (.int (I a 5) :: st) (n, I, Lm, Rm) r := ev_gtI cm_209 dX11_test_88 rfl rfl
theorem x209_91 : Ev L xs ρ 209 91 [l0, l1, l2] (.int x :: st) σ r ↔ if x = 0 then Ev L xs ρ 209 94 [l0, l1, l2] st σ r else Ev L xs ρ 209 105 [l0, l1, l2] st σ r := ev_ifne cm_209 dX11_test_91 (by decide)
theorem x209_94 : Ev L xs ρ 209 94 [some (.ref a), l1, l2] st σ r ↔ Ev L xs ρ 209 95 [some (.ref a), l1, l2] (.ref a :: st) σ r := ev_aload_n cm_209 dX11_test_94 rfl rfl
theorem x209_95 : Ev L xs 7 209 95 [l0, l1, l2] (.ref a :: []) (n, I, Lm, Rm) r ↔ (a < n ∧ shp a = (0, 11)) ∧ ∃ v n2 I2 L2 R2, Em L xs 210 [.ref a] (n, I, Lm, Rm) (v, n2, I2, L2, R2) ∧ Ev L xs 7 209 98 [l0, l1, l2] (v.toList ++ []) (n2, I2, L2, R2) r := ev_cV cm_209 [] dX11_test_95 rfl rfl rfl rfl (Nat.le_of_ble_eq_true rfl) (rka_lt rfl (by decide)) (Nat.le_of_ble_eq_true rfl)
theorem x209_98 : Ev L xs ρ 209 98 [l0, l1, l2] (.int x :: st) σ r ↔ if x = 0 then Ev L xs ρ 209 105 [l0, l1, l2] st σ r else Ev L xs ρ 209 101 [l0, l1, l2] st σ r := ev_ifeq cm_209 dX11_test_98 (by decide)
theorem x209_101 : Ev L xs ρ 209 101 [l0, l1, l2] st σ r ↔ Ev L xs ρ 209 102 [l0, l1, l2] (.int (1) :: st) σ r := ev_iconst cm_209 dX11_test_101 (by decide)
theorem x209_102 : Ev L xs ρ 209 102 [l0, l1, l2] st σ r ↔ Ev L xs ρ 209 106 [l0, l1, l2] st σ r := ev_goto cm_209 dX11_test_102 (by decide)
theorem x209_105 : Ev L xs ρ 209 105 [l0, l1, l2] st σ r ↔ Ev L xs ρ 209 106 [l0, l1, l2] (.int (0) :: st) σ r := ev_iconst cm_209 dX11_test_105 (by decide)
theorem x209_106 : Ev L xs ρ 209 106 [l0, l1, l2] (.int x :: st) σ r ↔ Ev L xs ρ 209 107 [l0, some (.int x), l2] st σ r := ev_istore_n cm_209 dX11_test_106 rfl (Nat.le_of_ble_eq_true rfl)
theorem x209_107 : Ev L xs ρ 209 107 [l0, l1, l2] st σ r ↔ Ev L xs ρ 209 2 [l0, l1, l2] st σ r := ev_goto cm_209 dX11_test_107 (by decide)
theorem x209_110 : Ev L xs ρ 209 110 [some (.ref a), l1, l2] st σ r ↔ Ev L xs ρ 209 111 [some (.ref a), l1, l2] (.ref a :: st) σ r := ev_aload_n cm_209 dX11_test_110 rfl rfl
theorem x209_111 : Ev L xs ρ 209 111 [l0, l1, l2] (.ref a :: st) (n, I, Lm, Rm) r ↔ (a < n ∧ shp a = (0, 11)) ∧ Ev L xs ρ 209 114 [l0, l1, l2] (.int (I a 5) :: st) (n, I, Lm, Rm) r := ev_gtI cm_209 dX11_test_111 rfl rfl
theorem x209_114 : Ev L xs ρ 209 114 [l0, l1, l2] (.int x :: st) σ r ↔ if x = 0 then Ev L xs ρ 209 117 [l0, l1, l2] st σ r else Ev L xs ρ 209 131 [l0, l1, l2] st σ r := ev_ifne cm_209 dX11_test_114 (by decide)
theorem x209_117 : Ev L xs ρ 209 117 [some (.ref a), l1, l2] st σ r ↔ Ev L xs ρ 209 118 [some (.ref a), l1, l2] (.ref a :: st) σ r := ev_aload_n cm_209 dX11_test_117 rfl rfl
theorem x209_118 : Ev L xs ρ 209 118 [l0, l1, l2] (.ref a :: st) (n, I, Lm, Rm) r ↔ (a < n ∧ shp a = (0, 11)) ∧ Ev L xs ρ 209 121 [l0, l1, l2] (.int (I a 58) :: st) (n, I, Lm, Rm) r := ev_gtI cm_209 dX11_test_118 rfl rfl
theorem x209_121 : Ev L xs ρ 209 121 [l0, l1, l2] (.int x :: st) σ r ↔ if x ≤ 0 then Ev L xs ρ 209 131 [l0, l1, l2] st σ r else Ev L xs ρ 209 124 [l0, l1, l2] st σ r := ev_ifle cm_209 dX11_test_121 (by decide)
theorem x209_124 : Ev L xs ρ 209 124 [some (.ref a), l1, l2] st σ r ↔ Ev L xs ρ 209 125 [some (.ref a), l1, l2] (.ref a :: st) σ r := ev_aload_n cm_209 dX11_test_124 rfl rfl
theorem x209_125 : Ev L xs 7 209 125 [l0, l1, l2] (.ref a :: []) (n, I, Lm, Rm) r ↔ (a < n ∧ shp a = (0, 11)) ∧ ∃ v n2 I2 L2 R2, Em L xs 199 [.ref a] (n, I, Lm, Rm) (v, n2, I2, L2, R2) ∧ Ev L xs 7 209 128 [l0, l1, l2] (v.toList ++ []) (n2, I2, L2, R2) r := ev_cV cm_209 [] dX11_test_125 rfl rfl rfl rfl (Nat.le_of_ble_eq_true rfl) (rka_lt rfl (by decide)) (Nat.le_of_ble_eq_true rfl)
theorem x209_128 : Ev L xs ρ 209 128 [l0, l1, l2] st σ r ↔ Ev L xs ρ 209 110 [l0, l1, l2] st σ r := ev_goto cm_209 dX11_test_128 (by decide)
theorem x209_131 : Ev L xs ρ 209 131 [l0, l1, l2] [] σ r ↔ r = (none, σ) := ev_retv cm_209 dX11_test_131 rfl
theorem cm_210 : mcd 210 = cX11_goesOnTest := rfl
theorem em_210 : Em L xs 210 [.ref a] σ r ↔ Ev L xs 3 210 0 [some (.ref a)] [] σ r := Iff.rfl
theorem x210_0 : Ev L xs ρ 210 0 [some (.ref a)] st σ r ↔ Ev L xs ρ 210 1 [some (.ref a)] (.ref a :: st) σ r := ev_aload_n cm_210 dX11_goesOnTest_0 rfl rfl
theorem x210_1 : Ev L xs ρ 210 1 [l0] (.ref a :: st) (n, I, Lm, Rm) r ↔ (a < n ∧ shp a = (0, 11)) ∧ Ev L xs ρ 210 4 [l0] (.int (I a 5) :: st) (n, I, Lm, Rm) r := ev_gtI cm_210 dX11_goesOnTest_1 rfl rfl
theorem x210_4 : Ev L xs ρ 210 4 [l0] (.int x :: st) σ r ↔ if x = 0 then Ev L xs ρ 210 7 [l0] st σ r else Ev L xs ρ 210 76 [l0] st σ r := ev_ifne cm_210 dX11_goesOnTest_4 (by decide)
theorem x210_7 : Ev L xs ρ 210 7 [some (.ref a)] st σ r ↔ Ev L xs ρ 210 8 [some (.ref a)] (.ref a :: st) σ r := ev_aload_n cm_210 dX11_goesOnTest_7 rfl rfl
theorem x210_8 : Ev L xs 3 210 8 [l0] (.ref a :: []) (n, I, Lm, Rm) r ↔ (a < n ∧ shp a = (0, 11)) ∧ ∃ v n2 I2 L2 R2, Em L xs 173 [.ref a] (n, I, Lm, Rm) (v, n2, I2, L2, R2) ∧ Ev L xs 3 210 11 [l0] (v.toList ++ []) (n2, I2, L2, R2) r := ev_cV cm_210 [] dX11_goesOnTest_8 rfl rfl rfl rfl (Nat.le_of_ble_eq_true rfl) (rka_lt rfl (by decide)) (Nat.le_of_ble_eq_true rfl)
theorem x210_11 : Ev L xs ρ 210 11 [l0] st σ r ↔ Ev L xs ρ 210 13 [l0] (.int (93) :: st) σ r := ev_bipush cm_210 dX11_goesOnTest_11 (by decide)
theorem x210_13 : Ev L xs ρ 210 13 [l0] (.int y :: .int x :: st) σ r ↔ if x = y then Ev L xs ρ 210 16 [l0] st σ r else Ev L xs ρ 210 76 [l0] st σ r := ev_icne cm_210 dX11_goesOnTest_13 (by decide)
theorem x210_16 : Ev L xs ρ 210 16 [some (.ref a)] st σ r ↔ Ev L xs ρ 210 17 [some (.ref a)] (.ref a :: st) σ r := ev_aload_n cm_210 dX11_goesOnTest_16 rfl rfl
theorem x210_17 : Ev L xs 3 210 17 [l0] (.ref a :: []) (n, I, Lm, Rm) r ↔ (a < n ∧ shp a = (0, 11)) ∧ ∃ v n2 I2 L2 R2, Em L xs 207 [.ref a] (n, I, Lm, Rm) (v, n2, I2, L2, R2) ∧ Ev L xs 3 210 20 [l0] (v.toList ++ []) (n2, I2, L2, R2) r := ev_cV cm_210 [] dX11_goesOnTest_17 rfl rfl rfl rfl (Nat.le_of_ble_eq_true rfl) (rka_lt rfl (by decide)) (Nat.le_of_ble_eq_true rfl)
theorem x210_20 : Ev L xs ρ 210 20 [l0] (.int x :: st) σ r ↔ if x = 0 then Ev L xs ρ 210 76 [l0] st σ r else Ev L xs ρ 210 23 [l0] st σ r := ev_ifeq cm_210 dX11_goesOnTest_20 (by decide)
theorem x210_23 : Ev L xs ρ 210 23 [some (.ref a)] st σ r ↔ Ev L xs ρ 210 24 [some (.ref a)] (.ref a :: st) σ r := ev_aload_n cm_210 dX11_goesOnTest_23 rfl rfl
theorem x210_24 : Ev L xs ρ 210 24 [l0] (.ref a :: st) σ r ↔ Ev L xs ρ 210 25 [l0] (.ref a :: .ref a :: st) σ r := ev_nx (ev_ex cm_210 dX11_goesOnTest_24 rfl rfl)
theorem x210_25 : Ev L xs ρ 210 25 [l0] (.ref a :: st) (n, I, Lm, Rm) r ↔ (a < n ∧ shp a = (0, 11)) ∧ Ev L xs ρ 210 28 [l0] (.int (I a 2) :: st) (n, I, Lm, Rm) r := ev_gtI cm_210 dX11_goesOnTest_25 rfl rfl
theorem x210_28 : Ev L xs ρ 210 28 [l0] st σ r ↔ Ev L xs ρ 210 29 [l0] (.int (1) :: st) σ r := ev_iconst cm_210 dX11_goesOnTest_28 (by decide)
theorem x210_29 : Ev L xs ρ 210 29 [l0] (.int y :: .int x :: st) σ r ↔ Ev L xs ρ 210 30 [l0] (.int (x + y) :: st) σ r := ev_nx (ev_ex cm_210 dX11_goesOnTest_29 rfl rfl)
theorem x210_30 : Ev L xs ρ 210 30 [l0] (.int x :: .ref a :: st) (n, I, Lm, Rm) r ↔ (a < n ∧ shp a = (0, 11)) ∧ Ev L xs ρ 210 33 [l0] st (n, up2 I a 2 x, Lm, Rm) r := ev_ptI cm_210 dX11_goesOnTest_30 rfl rfl (Or.inl rfl)
theorem x210_33 : Ev L xs ρ 210 33 [some (.ref a)] st σ r ↔ Ev L xs ρ 210 34 [some (.ref a)] (.ref a :: st) σ r := ev_aload_n cm_210 dX11_goesOnTest_33 rfl rfl
theorem x210_34 : Ev L xs ρ 210 34 [l0] st σ r ↔ Ev L xs ρ 210 36 [l0] (.int (25) :: st) σ r := ev_bipush cm_210 dX11_goesOnTest_34 (by decide)
theorem x210_36 : Ev L xs 3 210 36 [l0] (.int x :: .ref a :: []) (n, I, Lm, Rm) r ↔ (a < n ∧ shp a = (0, 11)) ∧ ∃ v n2 I2 L2 R2, Em L xs 198 [.ref a, .int x] (n, I, Lm, Rm) (v, n2, I2, L2, R2) ∧ Ev L xs 3 210 39 [l0] (v.toList ++ []) (n2, I2, L2, R2) r := ev_cV cm_210 [.int x] dX11_goesOnTest_36 rfl rfl rfl rfl (Nat.le_of_ble_eq_true rfl) (rka_lt rfl (by decide)) (Nat.le_of_ble_eq_true rfl)
theorem x210_39 : Ev L xs ρ 210 39 [l0] (.int x :: st) σ r ↔ if x = 0 then Ev L xs ρ 210 42 [l0] st σ r else Ev L xs ρ 210 49 [l0] st σ r := ev_ifne cm_210 dX11_goesOnTest_39 (by decide)
theorem x210_42 : Ev L xs ρ 210 42 [some (.ref a)] st σ r ↔ Ev L xs ρ 210 43 [some (.ref a)] (.ref a :: st) σ r := ev_aload_n cm_210 dX11_goesOnTest_42 rfl rfl
theorem x210_43 : Ev L xs 3 210 43 [l0] (.ref a :: []) (n, I, Lm, Rm) r ↔ (a < n ∧ shp a = (0, 11)) ∧ ∃ v n2 I2 L2 R2, Em L xs 199 [.ref a] (n, I, Lm, Rm) (v, n2, I2, L2, R2) ∧ Ev L xs 3 210 46 [l0] (v.toList ++ []) (n2, I2, L2, R2) r := ev_cV cm_210 [] dX11_goesOnTest_43 rfl rfl rfl rfl (Nat.le_of_ble_eq_true rfl) (rka_lt rfl (by decide)) (Nat.le_of_ble_eq_true rfl)
theorem x210_46 : Ev L xs ρ 210 46 [l0] st σ r ↔ Ev L xs ρ 210 33 [l0] st σ r := ev_goto cm_210 dX11_goesOnTest_46 (by decide)
theorem x210_49 : Ev L xs ρ 210 49 [some (.ref a)] st σ r ↔ Ev L xs ρ 210 50 [some (.ref a)] (.ref a :: st) σ r := ev_aload_n cm_210 dX11_goesOnTest_49 rfl rfl
theorem x210_50 : Ev L xs ρ 210 50 [l0] (.ref a :: st) σ r ↔ Ev L xs ρ 210 51 [l0] (.ref a :: .ref a :: st) σ r := ev_nx (ev_ex cm_210 dX11_goesOnTest_50 rfl rfl)
theorem x210_51 : Ev L xs ρ 210 51 [l0] (.ref a :: st) (n, I, Lm, Rm) r ↔ (a < n ∧ shp a = (0, 11)) ∧ Ev L xs ρ 210 54 [l0] (.int (I a 58) :: st) (n, I, Lm, Rm) r := ev_gtI cm_210 dX11_goesOnTest_51 rfl rfl
theorem x210_54 : Ev L xs ρ 210 54 [l0] st σ r ↔ Ev L xs ρ 210 55 [l0] (.int (1) :: st) σ r := ev_iconst cm_210 dX11_goesOnTest_54 (by decide)
theorem x210_55 : Ev L xs ρ 210 55 [l0] (.int y :: .int x :: st) σ r ↔ Ev L xs ρ 210 56 [l0] (.int (x - y) :: st) σ r := ev_nx (ev_ex cm_210 dX11_goesOnTest_55 rfl rfl)
theorem x210_56 : Ev L xs ρ 210 56 [l0] (.int x :: .ref a :: st) (n, I, Lm, Rm) r ↔ (a < n ∧ shp a = (0, 11)) ∧ Ev L xs ρ 210 59 [l0] st (n, up2 I a 58 x, Lm, Rm) r := ev_ptI cm_210 dX11_goesOnTest_56 rfl rfl (Or.inl rfl)
theorem x210_59 : Ev L xs ρ 210 59 [some (.ref a)] st σ r ↔ Ev L xs ρ 210 60 [some (.ref a)] (.ref a :: st) σ r := ev_aload_n cm_210 dX11_goesOnTest_59 rfl rfl
theorem x210_60 : Ev L xs ρ 210 60 [l0] (.ref a :: st) σ r ↔ Ev L xs ρ 210 61 [l0] (.ref a :: .ref a :: st) σ r := ev_nx (ev_ex cm_210 dX11_goesOnTest_60 rfl rfl)
theorem x210_61 : Ev L xs ρ 210 61 [l0] (.ref a :: st) (n, I, Lm, Rm) r ↔ (a < n ∧ shp a = (0, 11)) ∧ Ev L xs ρ 210 64 [l0] (.int (I a 59) :: st) (n, I, Lm, Rm) r := ev_gtI cm_210 dX11_goesOnTest_61 rfl rfl
theorem x210_64 : Ev L xs ρ 210 64 [l0] st σ r ↔ Ev L xs ρ 210 65 [l0] (.int (1) :: st) σ r := ev_iconst cm_210 dX11_goesOnTest_64 (by decide)
theorem x210_65 : Ev L xs ρ 210 65 [l0] (.int y :: .int x :: st) σ r ↔ Ev L xs ρ 210 66 [l0] (.int (x - y) :: st) σ r := ev_nx (ev_ex cm_210 dX11_goesOnTest_65 rfl rfl)
theorem x210_66 : Ev L xs ρ 210 66 [l0] (.int x :: .ref a :: st) (n, I, Lm, Rm) r ↔ (a < n ∧ shp a = (0, 11)) ∧ Ev L xs ρ 210 69 [l0] st (n, up2 I a 59 x, Lm, Rm) r := ev_ptI cm_210 dX11_goesOnTest_66 rfl rfl (Or.inl rfl)
theorem x210_69 : Ev L xs ρ 210 69 [some (.ref a)] st σ r ↔ Ev L xs ρ 210 70 [some (.ref a)] (.ref a :: st) σ r := ev_aload_n cm_210 dX11_goesOnTest_69 rfl rfl
theorem x210_70 : Ev L xs 3 210 70 [l0] (.ref a :: []) (n, I, Lm, Rm) r ↔ (a < n ∧ shp a = (0, 11)) ∧ ∃ v n2 I2 L2 R2, Em L xs 208 [.ref a] (n, I, Lm, Rm) (v, n2, I2, L2, R2) ∧ Ev L xs 3 210 73 [l0] (v.toList ++ []) (n2, I2, L2, R2) r := ev_cV cm_210 [] dX11_goesOnTest_70 rfl rfl rfl rfl (Nat.le_of_ble_eq_true rfl) (rka_lt rfl (by decide)) (Nat.le_of_ble_eq_true rfl)
theorem x210_73 : Ev L xs ρ 210 73 [l0] st σ r ↔ Ev L xs ρ 210 0 [l0] st σ r := ev_goto cm_210 dX11_goesOnTest_73 (by decide)
theorem x210_76 : Ev L xs ρ 210 76 [some (.ref a)] st σ r ↔ Ev L xs ρ 210 77 [some (.ref a)] (.ref a :: st) σ r := ev_aload_n cm_210 dX11_goesOnTest_76 rfl rfl
theorem x210_77 : Ev L xs ρ 210 77 [some (.ref a)] st σ r ↔ Ev L xs ρ 210 78 [some (.ref a)] (.ref a :: st) σ r := ev_aload_n cm_210 dX11_goesOnTest_77 rfl rfl
theorem x210_78 : Ev L xs ρ 210 78 [l0] (.ref a :: st) (n, I, Lm, Rm) r ↔ (a < n ∧ shp a = (0, 11)) ∧ Ev L xs ρ 210 81 [l0] (rfv (Rm a 30) :: st) (n, I, Lm, Rm) r := ev_gtR cm_210 dX11_goesOnTest_78 rfl rfl
theorem x210_81 : Ev L xs 3 210 81 [l0] (.ref b :: .ref a :: []) (n, I, Lm, Rm) r ↔ (a < n ∧ shp a = (0, 11)) ∧ ∃ v n2 I2 L2 R2, Em L xs 175 [.ref a, .ref b] (n, I, Lm, Rm) (v, n2, I2, L2, R2) ∧ Ev L xs 3 210 84 [l0] (v.toList ++ []) (n2, I2, L2, R2) r := ev_cV cm_210 [.ref b] dX11_goesOnTest_81 rfl rfl rfl rfl (Nat.le_of_ble_eq_true rfl) (rka_lt rfl (by decide)) (Nat.le_of_ble_eq_true rfl)
theorem x210_84 : Ev L xs ρ 210 84 [l0] (.int x :: st) σ r ↔ if x = 0 then Ev L xs ρ 210 126 [l0] st σ r else Ev L xs ρ 210 87 [l0] st σ r := ev_ifeq cm_210 dX11_goesOnTest_84 (by decide)
theorem x210_87 : Ev L xs ρ 210 87 [some (.ref a)] st σ r ↔ Ev L xs ρ 210 88 [some (.ref a)] (.ref a :: st) σ r := ev_aload_n cm_210 dX11_goesOnTest_87 rfl rfl
theorem x210_88 : Ev L xs ρ 210 88 [l0] st σ r ↔ Ev L xs ρ 210 90 [l0] (.int (14) :: st) σ r := ev_bipush cm_210 dX11_goesOnTest_88 (by decide)
theorem x210_90 : Ev L xs 3 210 90 [l0] (.int x :: .ref a :: []) (n, I, Lm, Rm) r ↔ (a < n ∧ shp a = (0, 11)) ∧ ∃ v n2 I2 L2 R2, Em L xs 198 [.ref a, .int x] (n, I, Lm, Rm) (v, n2, I2, L2, R2) ∧ Ev L xs 3 210 93 [l0] (v.toList ++ []) (n2, I2, L2, R2) r := ev_cV cm_210 [.int x] dX11_goesOnTest_90 rfl rfl rfl rfl (Nat.le_of_ble_eq_true rfl) (rka_lt rfl (by decide)) (Nat.le_of_ble_eq_true rfl)
theorem x210_93 : Ev L xs ρ 210 93 [l0] (.int x :: st) σ r ↔ if x = 0 then Ev L xs ρ 210 103 [l0] st σ r else Ev L xs ρ 210 96 [l0] st σ r := ev_ifeq cm_210 dX11_goesOnTest_93 (by decide)
theorem x210_96 : Ev L xs ρ 210 96 [some (.ref a)] st σ r ↔ Ev L xs ρ 210 97 [some (.ref a)] (.ref a :: st) σ r := ev_aload_n cm_210 dX11_goesOnTest_96 rfl rfl
theorem x210_97 : Ev L xs 3 210 97 [l0] (.ref a :: []) (n, I, Lm, Rm) r ↔ (a < n ∧ shp a = (0, 11)) ∧ ∃ v n2 I2 L2 R2, Em L xs 199 [.ref a] (n, I, Lm, Rm) (v, n2, I2, L2, R2) ∧ Ev L xs 3 210 100 [l0] (v.toList ++ []) (n2, I2, L2, R2) r := ev_cV cm_210 [] dX11_goesOnTest_97 rfl rfl rfl rfl (Nat.le_of_ble_eq_true rfl) (rka_lt rfl (by decide)) (Nat.le_of_ble_eq_true rfl)
theorem x210_100 : Ev L xs ρ 210 100 [l0] st σ r ↔ Ev L xs ρ 210 87 [l0] st σ r := ev_goto cm_210 dX11_goesOnTest_100 (by decide)
theorem x210_103 : Ev L xs ρ 210 103 [some (.ref a)] st σ r ↔ Ev L xs ρ 210 104 [some (.ref a)] (.ref a :: st) σ r := ev_aload_n cm_210 dX11_goesOnTest_103 rfl rfl
theorem x210_104 : Ev L xs ρ 210 104 [l0] (.ref a :: st) (n, I, Lm, Rm) r ↔ (a < n ∧ shp a = (0, 11)) ∧ Ev L xs ρ 210 107 [l0] (rfv (Rm a 57) :: st) (n, I, Lm, Rm) r := ev_gtR cm_210 dX11_goesOnTest_104 rfl rfl
theorem x210_107 : Ev L xs ρ 210 107 [some (.ref a)] st σ r ↔ Ev L xs ρ 210 108 [some (.ref a)] (.ref a :: st) σ r := ev_aload_n cm_210 dX11_goesOnTest_107 rfl rfl
theorem x210_108 : Ev L xs ρ 210 108 [l0] (.ref a :: st) (n, I, Lm, Rm) r ↔ (a < n ∧ shp a = (0, 11)) ∧ Ev L xs ρ 210 111 [l0] (.int (I a 58) :: st) (n, I, Lm, Rm) r := ev_gtI cm_210 dX11_goesOnTest_108 rfl rfl
theorem x210_111 : Ev L xs ρ 210 111 [l0] st σ r ↔ Ev L xs ρ 210 113 [l0] (.int (14) :: st) σ r := ev_bipush cm_210 dX11_goesOnTest_111 (by decide)
theorem x210_113 : Ev L xs ρ 210 113 [l0] (.int y :: .int x :: .ref a :: st) (n, I, Lm, Rm) r ↔ ((a < n ∧ (shp a).1 = 1) ∧ inb x (shp a).2) ∧ Ev L xs ρ 210 114 [l0] st (n, up2 I a (ixn x) y, Lm, Rm) r := ev_iast cm_210 dX11_goesOnTest_113
theorem x210_114 : Ev L xs ρ 210 114 [some (.ref a)] st σ r ↔ Ev L xs ρ 210 115 [some (.ref a)] (.ref a :: st) σ r := ev_aload_n cm_210 dX11_goesOnTest_114 rfl rfl
theorem x210_115 : Ev L xs ρ 210 115 [l0] (.ref a :: st) σ r ↔ Ev L xs ρ 210 116 [l0] (.ref a :: .ref a :: st) σ r := ev_nx (ev_ex cm_210 dX11_goesOnTest_115 rfl rfl)
theorem x210_116 : Ev L xs ρ 210 116 [l0] (.ref a :: st) (n, I, Lm, Rm) r ↔ (a < n ∧ shp a = (0, 11)) ∧ Ev L xs ρ 210 119 [l0] (.int (I a 58) :: st) (n, I, Lm, Rm) r := ev_gtI cm_210 dX11_goesOnTest_116 rfl rfl
theorem x210_119 : Ev L xs ρ 210 119 [l0] st σ r ↔ Ev L xs ρ 210 120 [l0] (.int (1) :: st) σ r := ev_iconst cm_210 dX11_goesOnTest_119 (by decide)
theorem x210_120 : Ev L xs ρ 210 120 [l0] (.int y :: .int x :: st) σ r ↔ Ev L xs ρ 210 121 [l0] (.int (x + y) :: st) σ r := ev_nx (ev_ex cm_210 dX11_goesOnTest_120 rfl rfl)
theorem x210_121 : Ev L xs ρ 210 121 [l0] (.int x :: .ref a :: st) (n, I, Lm, Rm) r ↔ (a < n ∧ shp a = (0, 11)) ∧ Ev L xs ρ 210 124 [l0] st (n, up2 I a 58 x, Lm, Rm) r := ev_ptI cm_210 dX11_goesOnTest_121 rfl rfl (Or.inl rfl)
theorem x210_124 : Ev L xs ρ 210 124 [l0] st σ r ↔ Ev L xs ρ 210 125 [l0] (.int (1) :: st) σ r := ev_iconst cm_210 dX11_goesOnTest_124 (by decide)
theorem x210_125 : Ev L xs ρ 210 125 [l0] [.int x] σ r ↔ (x = 0 ∨ x = 1) ∧ r = (some (.int x), σ) := ev_retz cm_210 dX11_goesOnTest_125 rfl
theorem x210_126 : Ev L xs ρ 210 126 [some (.ref a)] st σ r ↔ Ev L xs ρ 210 127 [some (.ref a)] (.ref a :: st) σ r := ev_aload_n cm_210 dX11_goesOnTest_126 rfl rfl
theorem x210_127 : Ev L xs ρ 210 127 [some (.ref a)] st σ r ↔ Ev L xs ρ 210 128 [some (.ref a)] (.ref a :: st) σ r := ev_aload_n cm_210 dX11_goesOnTest_127 rfl rfl
theorem x210_128 : Ev L xs ρ 210 128 [l0] (.ref a :: st) (n, I, Lm, Rm) r ↔ (a < n ∧ shp a = (0, 11)) ∧ Ev L xs ρ 210 131 [l0] (rfv (Rm a 29) :: st) (n, I, Lm, Rm) r := ev_gtR cm_210 dX11_goesOnTest_128 rfl rfl
theorem x210_131 : Ev L xs 3 210 131 [l0] (.ref b :: .ref a :: []) (n, I, Lm, Rm) r ↔ (a < n ∧ shp a = (0, 11)) ∧ ∃ v n2 I2 L2 R2, Em L xs 175 [.ref a, .ref b] (n, I, Lm, Rm) (v, n2, I2, L2, R2) ∧ Ev L xs 3 210 134 [l0] (v.toList ++ []) (n2, I2, L2, R2) r := ev_cV cm_210 [.ref b] dX11_goesOnTest_131 rfl rfl rfl rfl (Nat.le_of_ble_eq_true rfl) (rka_lt rfl (by decide)) (Nat.le_of_ble_eq_true rfl)
theorem x210_134 : Ev L xs ρ 210 134 [l0] (.int x :: st) σ r ↔ if x = 0 then Ev L xs ρ 210 185 [l0] st σ r else Ev L xs ρ 210 137 [l0] st σ r := ev_ifeq cm_210 dX11_goesOnTest_134 (by decide)
theorem x210_137 : Ev L xs ρ 210 137 [some (.ref a)] st σ r ↔ Ev L xs ρ 210 138 [some (.ref a)] (.ref a :: st) σ r := ev_aload_n cm_210 dX11_goesOnTest_137 rfl rfl
theorem x210_138 : Ev L xs ρ 210 138 [l0] st σ r ↔ Ev L xs ρ 210 140 [l0] (.int (14) :: st) σ r := ev_bipush cm_210 dX11_goesOnTest_138 (by decide)
theorem x210_140 : Ev L xs 3 210 140 [l0] (.int x :: .ref a :: []) (n, I, Lm, Rm) r ↔ (a < n ∧ shp a = (0, 11)) ∧ ∃ v n2 I2 L2 R2, Em L xs 198 [.ref a, .int x] (n, I, Lm, Rm) (v, n2, I2, L2, R2) ∧ Ev L xs 3 210 143 [l0] (v.toList ++ []) (n2, I2, L2, R2) r := ev_cV cm_210 [.int x] dX11_goesOnTest_140 rfl rfl rfl rfl (Nat.le_of_ble_eq_true rfl) (rka_lt rfl (by decide)) (Nat.le_of_ble_eq_true rfl)
theorem x210_143 : Ev L xs ρ 210 143 [l0] (.int x :: st) σ r ↔ if x = 0 then Ev L xs ρ 210 146 [l0] st σ r else Ev L xs ρ 210 155 [l0] st σ r := ev_ifne cm_210 dX11_goesOnTest_143 (by decide)
theorem x210_146 : Ev L xs ρ 210 146 [some (.ref a)] st σ r ↔ Ev L xs ρ 210 147 [some (.ref a)] (.ref a :: st) σ r := ev_aload_n cm_210 dX11_goesOnTest_146 rfl rfl
theorem x210_147 : Ev L xs ρ 210 147 [l0] st σ r ↔ Ev L xs ρ 210 149 [l0] (.int (15) :: st) σ r := ev_bipush cm_210 dX11_goesOnTest_147 (by decide)
theorem x210_149 : Ev L xs 3 210 149 [l0] (.int x :: .ref a :: []) (n, I, Lm, Rm) r ↔ (a < n ∧ shp a = (0, 11)) ∧ ∃ v n2 I2 L2 R2, Em L xs 198 [.ref a, .int x] (n, I, Lm, Rm) (v, n2, I2, L2, R2) ∧ Ev L xs 3 210 152 [l0] (v.toList ++ []) (n2, I2, L2, R2) r := ev_cV cm_210 [.int x] dX11_goesOnTest_149 rfl rfl rfl rfl (Nat.le_of_ble_eq_true rfl) (rka_lt rfl (by decide)) (Nat.le_of_ble_eq_true rfl)
theorem x210_152 : Ev L xs ρ 210 152 [l0] (.int x :: st) σ r ↔ if x = 0 then Ev L xs ρ 210 162 [l0] st σ r else Ev L xs ρ 210 155 [l0] st σ r := ev_ifeq cm_210 dX11_goesOnTest_152 (by decide)
theorem x210_155 : Ev L xs ρ 210 155 [some (.ref a)] st σ r ↔ Ev L xs ρ 210 156 [some (.ref a)] (.ref a :: st) σ r := ev_aload_n cm_210 dX11_goesOnTest_155 rfl rfl
theorem x210_156 : Ev L xs 3 210 156 [l0] (.ref a :: []) (n, I, Lm, Rm) r ↔ (a < n ∧ shp a = (0, 11)) ∧ ∃ v n2 I2 L2 R2, Em L xs 199 [.ref a] (n, I, Lm, Rm) (v, n2, I2, L2, R2) ∧ Ev L xs 3 210 159 [l0] (v.toList ++ []) (n2, I2, L2, R2) r := ev_cV cm_210 [] dX11_goesOnTest_156 rfl rfl rfl rfl (Nat.le_of_ble_eq_true rfl) (rka_lt rfl (by decide)) (Nat.le_of_ble_eq_true rfl)
theorem x210_159 : Ev L xs ρ 210 159 [l0] st σ r ↔ Ev L xs ρ 210 137 [l0] st σ r := ev_goto cm_210 dX11_goesOnTest_159 (by decide)
theorem x210_162 : Ev L xs ρ 210 162 [some (.ref a)] st σ r ↔ Ev L xs ρ 210 163 [some (.ref a)] (.ref a :: st) σ r := ev_aload_n cm_210 dX11_goesOnTest_162 rfl rfl
theorem x210_163 : Ev L xs ρ 210 163 [l0] (.ref a :: st) (n, I, Lm, Rm) r ↔ (a < n ∧ shp a = (0, 11)) ∧ Ev L xs ρ 210 166 [l0] (rfv (Rm a 57) :: st) (n, I, Lm, Rm) r := ev_gtR cm_210 dX11_goesOnTest_163 rfl rfl
theorem x210_166 : Ev L xs ρ 210 166 [some (.ref a)] st σ r ↔ Ev L xs ρ 210 167 [some (.ref a)] (.ref a :: st) σ r := ev_aload_n cm_210 dX11_goesOnTest_166 rfl rfl
theorem x210_167 : Ev L xs ρ 210 167 [l0] (.ref a :: st) (n, I, Lm, Rm) r ↔ (a < n ∧ shp a = (0, 11)) ∧ Ev L xs ρ 210 170 [l0] (.int (I a 58) :: st) (n, I, Lm, Rm) r := ev_gtI cm_210 dX11_goesOnTest_167 rfl rfl
theorem x210_170 : Ev L xs ρ 210 170 [l0] st σ r ↔ Ev L xs ρ 210 172 [l0] (.int (15) :: st) σ r := ev_bipush cm_210 dX11_goesOnTest_170 (by decide)
theorem x210_172 : Ev L xs ρ 210 172 [l0] (.int y :: .int x :: .ref a :: st) (n, I, Lm, Rm) r ↔ ((a < n ∧ (shp a).1 = 1) ∧ inb x (shp a).2) ∧ Ev L xs ρ 210 173 [l0] st (n, up2 I a (ixn x) y, Lm, Rm) r := ev_iast cm_210 dX11_goesOnTest_172
theorem x210_173 : Ev L xs ρ 210 173 [some (.ref a)] st σ r ↔ Ev L xs ρ 210 174 [some (.ref a)] (.ref a :: st) σ r := ev_aload_n cm_210 dX11_goesOnTest_173 rfl rfl
theorem x210_174 : Ev L xs ρ 210 174 [l0] (.ref a :: st) σ r ↔ Ev L xs ρ 210 175 [l0] (.ref a :: .ref a :: st) σ r := ev_nx (ev_ex cm_210 dX11_goesOnTest_174 rfl rfl)
theorem x210_175 : Ev L xs ρ 210 175 [l0] (.ref a :: st) (n, I, Lm, Rm) r ↔ (a < n ∧ shp a = (0, 11)) ∧ Ev L xs ρ 210 178 [l0] (.int (I a 58) :: st) (n, I, Lm, Rm) r := ev_gtI cm_210 dX11_goesOnTest_175 rfl rfl
theorem x210_178 : Ev L xs ρ 210 178 [l0] st σ r ↔ Ev L xs ρ 210 179 [l0] (.int (1) :: st) σ r := ev_iconst cm_210 dX11_goesOnTest_178 (by decide)
theorem x210_179 : Ev L xs ρ 210 179 [l0] (.int y :: .int x :: st) σ r ↔ Ev L xs ρ 210 180 [l0] (.int (x + y) :: st) σ r := ev_nx (ev_ex cm_210 dX11_goesOnTest_179 rfl rfl)
theorem x210_180 : Ev L xs ρ 210 180 [l0] (.int x :: .ref a :: st) (n, I, Lm, Rm) r ↔ (a < n ∧ shp a = (0, 11)) ∧ Ev L xs ρ 210 183 [l0] st (n, up2 I a 58 x, Lm, Rm) r := ev_ptI cm_210 dX11_goesOnTest_180 rfl rfl (Or.inl rfl)
theorem x210_183 : Ev L xs ρ 210 183 [l0] st σ r ↔ Ev L xs ρ 210 184 [l0] (.int (1) :: st) σ r := ev_iconst cm_210 dX11_goesOnTest_183 (by decide)
theorem x210_184 : Ev L xs ρ 210 184 [l0] [.int x] σ r ↔ (x = 0 ∨ x = 1) ∧ r = (some (.int x), σ) := ev_retz cm_210 dX11_goesOnTest_184 rfl
theorem x210_185 : Ev L xs ρ 210 185 [some (.ref a)] st σ r ↔ Ev L xs ρ 210 186 [some (.ref a)] (.ref a :: st) σ r := ev_aload_n cm_210 dX11_goesOnTest_185 rfl rfl
theorem x210_186 : Ev L xs ρ 210 186 [l0] (.ref a :: st) (n, I, Lm, Rm) r ↔ (a < n ∧ shp a = (0, 11)) ∧ Ev L xs ρ 210 189 [l0] (.int (I a 5) :: st) (n, I, Lm, Rm) r := ev_gtI cm_210 dX11_goesOnTest_186 rfl rfl
theorem x210_189 : Ev L xs ρ 210 189 [l0] (.int x :: st) σ r ↔ if x = 0 then Ev L xs ρ 210 192 [l0] st σ r else Ev L xs ρ 210 208 [l0] st σ r := ev_ifne cm_210 dX11_goesOnTest_189 (by decide)
theorem x210_192 : Ev L xs ρ 210 192 [some (.ref a)] st σ r ↔ Ev L xs ρ 210 193 [some (.ref a)] (.ref a :: st) σ r := ev_aload_n cm_210 dX11_goesOnTest_192 rfl rfl
theorem x210_193 : Ev L xs 3 210 193 [l0] (.ref a :: []) (n, I, Lm, Rm) r ↔ (a < n ∧ shp a = (0, 11)) ∧ ∃ v n2 I2 L2 R2, Em L xs 207 [.ref a] (n, I, Lm, Rm) (v, n2, I2, L2, R2) ∧ Ev L xs 3 210 196 [l0] (v.toList ++ []) (n2, I2, L2, R2) r := ev_cV cm_210 [] dX11_goesOnTest_193 rfl rfl rfl rfl (Nat.le_of_ble_eq_true rfl) (rka_lt rfl (by decide)) (Nat.le_of_ble_eq_true rfl)
theorem x210_196 : Ev L xs ρ 210 196 [l0] (.int x :: st) σ r ↔ if x = 0 then Ev L xs ρ 210 208 [l0] st σ r else Ev L xs ρ 210 199 [l0] st σ r := ev_ifeq cm_210 dX11_goesOnTest_196 (by decide)
theorem x210_199 : Ev L xs ρ 210 199 [some (.ref a)] st σ r ↔ Ev L xs ρ 210 200 [some (.ref a)] (.ref a :: st) σ r := ev_aload_n cm_210 dX11_goesOnTest_199 rfl rfl
theorem x210_200 : Ev L xs ρ 210 200 [l0] st σ r ↔ Ev L xs ρ 210 201 [l0] (.int (1) :: st) σ r := ev_iconst cm_210 dX11_goesOnTest_200 (by decide)
theorem x210_201 : Ev L xs ρ 210 201 [some (.ref a)] st σ r ↔ Ev L xs ρ 210 202 [some (.ref a)] (.ref a :: st) σ r := ev_aload_n cm_210 dX11_goesOnTest_201 rfl rfl
theorem x210_202 : Ev L xs ρ 210 202 [l0] (.ref a :: st) (n, I, Lm, Rm) r ↔ (a < n ∧ shp a = (0, 11)) ∧ Ev L xs ρ 210 205 [l0] (.int (I a 2) :: st) (n, I, Lm, Rm) r := ev_gtI cm_210 dX11_goesOnTest_202 rfl rfl
theorem x210_205 : Ev L xs 3 210 205 [l0] (.int y :: .int x :: .ref a :: []) (n, I, Lm, Rm) r ↔ (a < n ∧ shp a = (0, 11)) ∧ ∃ v n2 I2 L2 R2, Em L xs 170 [.ref a, .int x, .int y] (n, I, Lm, Rm) (v, n2, I2, L2, R2) ∧ Ev L xs 3 210 208 [l0] (v.toList ++ []) (n2, I2, L2, R2) r := ev_cV cm_210 [.int x, .int y] dX11_goesOnTest_205 rfl rfl rfl rfl (Nat.le_of_ble_eq_true rfl) (rka_lt rfl (by decide)) (Nat.le_of_ble_eq_true rfl)
theorem x210_208 : Ev L xs ρ 210 208 [l0] st σ r ↔ Ev L xs ρ 210 209 [l0] (.int (0) :: st) σ r := ev_iconst cm_210 dX11_goesOnTest_208 (by decide)
theorem x210_209 : Ev L xs ρ 210 209 [l0] [.int x] σ r ↔ (x = 0 ∨ x = 1) ∧ r = (some (.int x), σ) := ev_retz cm_210 dX11_goesOnTest_209 rfl
theorem cm_211 : mcd 211 = cX11_worksTold := rfl
theorem em_211 : Em L xs 211 [.ref a, .int x] σ r ↔ Ev L xs 8 211 0 [some (.ref a), some (.int x), none] [] σ r := Iff.rfl
theorem x211_0 : Ev L xs ρ 211 0 [some (.ref a), l1, l2] st σ r ↔ Ev L xs ρ 211 1 [some (.ref a), l1, l2] (.ref a :: st) σ r := ev_aload_n cm_211 dX11_worksTold_0 rfl rfl
theorem x211_1 : Ev L xs ρ 211 1 [some (.ref a), l1, l2] st σ r ↔ Ev L xs ρ 211 2 [some (.ref a), l1, l2] (.ref a :: st) σ r := ev_aload_n cm_211 dX11_worksTold_1 rfl rfl
theorem x211_2 : Ev L xs ρ 211 2 [l0, l1, l2] (.ref a :: st) (n, I, Lm, Rm) r ↔ (a < n ∧ shp a = (0, 11)) ∧ Ev L xs ρ 211 5 [l0, l1, l2] (rfv (Rm a 60) :: st) (n, I, Lm, Rm) r := ev_gtR cm_211 dX11_worksTold_2 rfl rfl
theorem x211_5 : Ev L xs ρ 211 5 [l0, l1, l2] st σ r ↔ Ev L xs ρ 211 6 [l0, l1, l2] (.int (1) :: st) σ r := ev_iconst cm_211 dX11_worksTold_5 (by decide)
theorem x211_6 : Ev L xs ρ 211 6 [l0, l1, l2] (.int x :: .ref a :: st) (n, I, Lm, Rm) r ↔ ((a < n ∧ (shp a).1 = 1) ∧ inb x (shp a).2) ∧ Ev L xs ρ 211 7 [l0, l1, l2] (.int (I a (ixn x)) :: st) (n, I, Lm, Rm) r := ev_iald cm_211 dX11_worksTold_6 (by decide)
theorem x211_7 : Ev L xs ρ 211 7 [l0, l1, l2] st σ r ↔ Ev L xs ρ 211 9 [l0, l1, l2] (.int (12) :: st) σ r := ev_bipush cm_211 dX11_worksTold_7 (by decide)
theorem x211_9 : Ev L xs ρ 211 9 [l0, some (.int x), l2] st σ r ↔ Ev L xs ρ 211 10 [l0, some (.int x), l2] (.int x :: st) σ r := ev_iload_n cm_211 dX11_worksTold_9 rfl rfl
theorem x211_10 : Ev L xs 8 211 10 [l0, l1, l2] (.int z :: .int y :: .int x :: .ref a :: []) (n, I, Lm, Rm) r ↔ (a < n ∧ shp a = (0, 11)) ∧ ∃ v n2 I2 L2 R2, Em L xs 186 [.ref a, .int x, .int y, .int z] (n, I, Lm, Rm) (v, n2, I2, L2, R2) ∧ Ev L xs 8 211 13 [l0, l1, l2] (v.toList ++ []) (n2, I2, L2, R2) r := ev_cV cm_211 [.int x, .int y, .int z] dX11_worksTold_10 rfl rfl rfl rfl (Nat.le_of_ble_eq_true rfl) (rka_lt rfl (by decide)) (Nat.le_of_ble_eq_true rfl)
theorem x211_13 : Ev L xs ρ 211 13 [l0, l1, l2] (.int x :: st) σ r ↔ if x = 0 then Ev L xs ρ 211 17 [l0, l1, l2] st σ r else Ev L xs ρ 211 16 [l0, l1, l2] st σ r := ev_ifeq cm_211 dX11_worksTold_13 (by decide)
theorem x211_16 : Ev L xs ρ 211 16 [l0, l1, l2] [] σ r ↔ r = (none, σ) := ev_retv cm_211 dX11_worksTold_16 rfl
theorem x211_17 : Ev L xs ρ 211 17 [l0, l1, l2] st σ r ↔ Ev L xs ρ 211 19 [l0, l1, l2] (.int (12) :: st) σ r := ev_bipush cm_211 dX11_worksTold_17 (by decide)
theorem x211_19 : Ev L xs ρ 211 19 [some (.ref a), l1, l2] st σ r ↔ Ev L xs ρ 211 20 [some (.ref a), l1, l2] (.ref a :: st) σ r := ev_aload_n cm_211 dX11_worksTold_19 rfl rfl
theorem x211_20 : Ev L xs ρ 211 20 [l0, l1, l2] (.ref a :: st) (n, I, Lm, Rm) r ↔ (a < n ∧ shp a = (0, 11)) ∧ Ev L xs ρ 211 23 [l0, l1, l2] (rfv (Rm a 60) :: st) (n, I, Lm, Rm) r := ev_gtR cm_211 dX11_worksTold_20 rfl rfl
theorem x211_23 : Ev L xs ρ 211 23 [l0, l1, l2] st σ r ↔ Ev L xs ρ 211 24 [l0, l1, l2] (.int (1) :: st) σ r := ev_iconst cm_211 dX11_worksTold_23 (by decide)
theorem x211_24 : Ev L xs ρ 211 24 [l0, l1, l2] (.int x :: .ref a :: st) (n, I, Lm, Rm) r ↔ ((a < n ∧ (shp a).1 = 1) ∧ inb x (shp a).2) ∧ Ev L xs ρ 211 25 [l0, l1, l2] (.int (I a (ixn x)) :: st) (n, I, Lm, Rm) r := ev_iald cm_211 dX11_worksTold_24 (by decide)
theorem x211_25 : Ev L xs ρ 211 25 [l0, l1, l2] (.int y :: .int x :: st) σ r ↔ Ev L xs ρ 211 26 [l0, l1, l2] (.int (x + y) :: st) σ r := ev_nx (ev_ex cm_211 dX11_worksTold_25 rfl rfl)
theorem x211_26 : Ev L xs ρ 211 26 [l0, l1, l2] (.int x :: st) σ r ↔ Ev L xs ρ 211 27 [l0, l1, some (.int x)] st σ r := ev_istore_n cm_211 dX11_worksTold_26 rfl (Nat.le_of_ble_eq_true rfl)
theorem x211_27 : Ev L xs ρ 211 27 [some (.ref a), l1, l2] st σ r ↔ Ev L xs ρ 211 28 [some (.ref a), l1, l2] (.ref a :: st) σ r := ev_aload_n cm_211 dX11_worksTold_27 rfl rfl
theorem x211_28 : Ev L xs ρ 211 28 [l0, l1, l2] (.ref a :: st) (n, I, Lm, Rm) r ↔ (a < n ∧ shp a = (0, 11)) ∧ Ev L xs ρ 211 31 [l0, l1, l2] (rfv (Rm a 61) :: st) (n, I, Lm, Rm) r := ev_gtR cm_211 dX11_worksTold_28 rfl rfl
theorem x211_31 : Ev L xs ρ 211 31 [l0, l1, some (.int x)] st σ r ↔ Ev L xs ρ 211 32 [l0, l1, some (.int x)] (.int x :: st) σ r := ev_iload_n cm_211 dX11_worksTold_31 rfl rfl
theorem x211_32 : Ev L xs ρ 211 32 [some (.ref a), l1, l2] st σ r ↔ Ev L xs ρ 211 33 [some (.ref a), l1, l2] (.ref a :: st) σ r := ev_aload_n cm_211 dX11_worksTold_32 rfl rfl
theorem x211_33 : Ev L xs ρ 211 33 [l0, l1, l2] st σ r ↔ Ev L xs ρ 211 34 [l0, l1, l2] (.int (0) :: st) σ r := ev_iconst cm_211 dX11_worksTold_33 (by decide)
theorem x211_34 : Ev L xs 8 211 34 [l0, l1, l2] (.int y :: .ref b :: .int x :: .ref a :: []) (n, I, Lm, Rm) r ↔ (b < n ∧ shp b = (0, 11)) ∧ ∃ v n2 I2 L2 R2, Em L xs 185 [.ref b, .int y] (n, I, Lm, Rm) (v, n2, I2, L2, R2) ∧ Ev L xs 8 211 37 [l0, l1, l2] (v.toList ++ (.int x :: .ref a :: [])) (n2, I2, L2, R2) r := ev_cV cm_211 [.int y] dX11_worksTold_34 rfl rfl rfl rfl (Nat.le_of_ble_eq_true rfl) (rka_lt rfl (by decide)) (Nat.le_of_ble_eq_true rfl)
theorem x211_37 : Ev L xs ρ 211 37 [l0, l1, l2] (.int y :: .int x :: .ref a :: st) (n, I, Lm, Rm) r ↔ ((a < n ∧ (shp a).1 = 1) ∧ inb x (shp a).2) ∧ Ev L xs ρ 211 38 [l0, l1, l2] st (n, up2 I a (ixn x) y, Lm, Rm) r := ev_iast cm_211 dX11_worksTold_37
theorem x211_38 : Ev L xs ρ 211 38 [some (.ref a), l1, l2] st σ r ↔ Ev L xs ρ 211 39 [some (.ref a), l1, l2] (.ref a :: st) σ r := ev_aload_n cm_211 dX11_worksTold_38 rfl rfl
theorem x211_39 : Ev L xs ρ 211 39 [l0, l1, l2] (.ref a :: st) (n, I, Lm, Rm) r ↔ (a < n ∧ shp a = (0, 11)) ∧ Ev L xs ρ 211 42 [l0, l1, l2] (rfv (Rm a 62) :: st) (n, I, Lm, Rm) r := ev_gtR cm_211 dX11_worksTold_39 rfl rfl
theorem x211_42 : Ev L xs ρ 211 42 [l0, l1, some (.int x)] st σ r ↔ Ev L xs ρ 211 43 [l0, l1, some (.int x)] (.int x :: st) σ r := ev_iload_n cm_211 dX11_worksTold_42 rfl rfl
theorem x211_43 : Ev L xs ρ 211 43 [some (.ref a), l1, l2] st σ r ↔ Ev L xs ρ 211 44 [some (.ref a), l1, l2] (.ref a :: st) σ r := ev_aload_n cm_211 dX11_worksTold_43 rfl rfl
theorem x211_44 : Ev L xs ρ 211 44 [l0, l1, l2] (.ref a :: st) (n, I, Lm, Rm) r ↔ (a < n ∧ shp a = (0, 11)) ∧ Ev L xs ρ 211 47 [l0, l1, l2] (.int (I a 56) :: st) (n, I, Lm, Rm) r := ev_gtI cm_211 dX11_worksTold_44 rfl rfl
theorem x211_47 : Ev L xs ρ 211 47 [l0, l1, l2] (.int y :: .int x :: .ref a :: st) (n, I, Lm, Rm) r ↔ ((a < n ∧ (shp a).1 = 1) ∧ inb x (shp a).2) ∧ Ev L xs ρ 211 48 [l0, l1, l2] st (n, up2 I a (ixn x) y, Lm, Rm) r := ev_iast cm_211 dX11_worksTold_47
theorem x211_48 : Ev L xs ρ 211 48 [some (.ref a), l1, l2] st σ r ↔ Ev L xs ρ 211 49 [some (.ref a), l1, l2] (.ref a :: st) σ r := ev_aload_n cm_211 dX11_worksTold_48 rfl rfl
theorem x211_49 : Ev L xs ρ 211 49 [l0, l1, l2] st σ r ↔ Ev L xs ρ 211 50 [l0, l1, l2] (.int (0) :: st) σ r := ev_iconst cm_211 dX11_worksTold_49 (by decide)
theorem x211_50 : Ev L xs ρ 211 50 [l0, l1, l2] (.int x :: .ref a :: st) (n, I, Lm, Rm) r ↔ (a < n ∧ shp a = (0, 11)) ∧ Ev L xs ρ 211 53 [l0, l1, l2] st (n, up2 I a 58 x, Lm, Rm) r := ev_ptI cm_211 dX11_worksTold_50 rfl rfl (Or.inl rfl)
theorem x211_53 : Ev L xs ρ 211 53 [some (.ref a), l1, l2] st σ r ↔ Ev L xs ρ 211 54 [some (.ref a), l1, l2] (.ref a :: st) σ r := ev_aload_n cm_211 dX11_worksTold_53 rfl rfl
theorem x211_54 : Ev L xs ρ 211 54 [l0, l1, l2] st σ r ↔ Ev L xs ρ 211 55 [l0, l1, l2] (.int (0) :: st) σ r := ev_iconst cm_211 dX11_worksTold_54 (by decide)
theorem x211_55 : Ev L xs ρ 211 55 [l0, l1, l2] (.int x :: .ref a :: st) (n, I, Lm, Rm) r ↔ (a < n ∧ shp a = (0, 11)) ∧ Ev L xs ρ 211 58 [l0, l1, l2] st (n, up2 I a 59 x, Lm, Rm) r := ev_ptI cm_211 dX11_worksTold_55 rfl rfl (Or.inl rfl)
theorem x211_58 : Ev L xs ρ 211 58 [some (.ref a), l1, l2] st σ r ↔ Ev L xs ρ 211 59 [some (.ref a), l1, l2] (.ref a :: st) σ r := ev_aload_n cm_211 dX11_worksTold_58 rfl rfl
theorem x211_59 : Ev L xs ρ 211 59 [l0, l1, l2] st σ r ↔ Ev L xs ρ 211 60 [l0, l1, l2] (.int (0) :: st) σ r := ev_iconst cm_211 dX11_worksTold_59 (by decide)
theorem x211_60 : Ev L xs ρ 211 60 [l0, l1, l2] (.int x :: .ref a :: st) (n, I, Lm, Rm) r ↔ (a < n ∧ shp a = (0, 11)) ∧ Ev L xs ρ 211 63 [l0, l1, l2] st (n, up2 I a 65 x, Lm, Rm) r := ev_ptI cm_211 dX11_worksTold_60 rfl rfl (Or.inl rfl)
theorem x211_63 : Ev L xs ρ 211 63 [some (.ref a), l1, l2] st σ r ↔ Ev L xs ρ 211 64 [some (.ref a), l1, l2] (.ref a :: st) σ r := ev_aload_n cm_211 dX11_worksTold_63 rfl rfl
theorem x211_64 : Ev L xs ρ 211 64 [l0, l1, l2] (.ref a :: st) (n, I, Lm, Rm) r ↔ (a < n ∧ shp a = (0, 11)) ∧ Ev L xs ρ 211 67 [l0, l1, l2] (.int (I a 5) :: st) (n, I, Lm, Rm) r := ev_gtI cm_211 dX11_worksTold_64 rfl rfl
theorem x211_67 : Ev L xs ρ 211 67 [l0, l1, l2] (.int x :: st) σ r ↔ if x = 0 then Ev L xs ρ 211 70 [l0, l1, l2] st σ r else Ev L xs ρ 211 74 [l0, l1, l2] st σ r := ev_ifne cm_211 dX11_worksTold_67 (by decide)
theorem x211_70 : Ev L xs ρ 211 70 [some (.ref a), l1, l2] st σ r ↔ Ev L xs ρ 211 71 [some (.ref a), l1, l2] (.ref a :: st) σ r := ev_aload_n cm_211 dX11_worksTold_70 rfl rfl
theorem x211_71 : Ev L xs 8 211 71 [l0, l1, l2] (.ref a :: []) (n, I, Lm, Rm) r ↔ (a < n ∧ shp a = (0, 11)) ∧ ∃ v n2 I2 L2 R2, Em L xs 205 [.ref a] (n, I, Lm, Rm) (v, n2, I2, L2, R2) ∧ Ev L xs 8 211 74 [l0, l1, l2] (v.toList ++ []) (n2, I2, L2, R2) r := ev_cV cm_211 [] dX11_worksTold_71 rfl rfl rfl rfl (Nat.le_of_ble_eq_true rfl) (rka_lt rfl (by decide)) (Nat.le_of_ble_eq_true rfl)
theorem x211_74 : Ev L xs ρ 211 74 [some (.ref a), l1, l2] st σ r ↔ Ev L xs ρ 211 75 [some (.ref a), l1, l2] (.ref a :: st) σ r := ev_aload_n cm_211 dX11_worksTold_74 rfl rfl
theorem x211_75 : Ev L xs ρ 211 75 [l0, l1, l2] (.ref a :: st) (n, I, Lm, Rm) r ↔ (a < n ∧ shp a = (0, 11)) ∧ Ev L xs ρ 211 78 [l0, l1, l2] (rfv (Rm a 63) :: st) (n, I, Lm, Rm) r := ev_gtR cm_211 dX11_worksTold_75 rfl rfl
theorem x211_78 : Ev L xs ρ 211 78 [l0, l1, some (.int x)] st σ r ↔ Ev L xs ρ 211 79 [l0, l1, some (.int x)] (.int x :: st) σ r := ev_iload_n cm_211 dX11_worksTold_78 rfl rfl
theorem x211_79 : Ev L xs ρ 211 79 [some (.ref a), l1, l2] st σ r ↔ Ev L xs ρ 211 80 [some (.ref a), l1, l2] (.ref a :: st) σ r := ev_aload_n cm_211 dX11_worksTold_79 rfl rfl
theorem x211_80 : Ev L xs ρ 211 80 [l0, l1, l2] (.ref a :: st) (n, I, Lm, Rm) r ↔ (a < n ∧ shp a = (0, 11)) ∧ Ev L xs ρ 211 83 [l0, l1, l2] (.int (I a 56) :: st) (n, I, Lm, Rm) r := ev_gtI cm_211 dX11_worksTold_80 rfl rfl
theorem x211_83 : Ev L xs ρ 211 83 [l0, l1, l2] (.int y :: .int x :: .ref a :: st) (n, I, Lm, Rm) r ↔ ((a < n ∧ (shp a).1 = 1) ∧ inb x (shp a).2) ∧ Ev L xs ρ 211 84 [l0, l1, l2] st (n, up2 I a (ixn x) y, Lm, Rm) r := ev_iast cm_211 dX11_worksTold_83
theorem x211_84 : Ev L xs ρ 211 84 [some (.ref a), l1, l2] st σ r ↔ Ev L xs ρ 211 85 [some (.ref a), l1, l2] (.ref a :: st) σ r := ev_aload_n cm_211 dX11_worksTold_84 rfl rfl
theorem x211_85 : Ev L xs ρ 211 85 [some (.ref a), l1, l2] st σ r ↔ Ev L xs ρ 211 86 [some (.ref a), l1, l2] (.ref a :: st) σ r := ev_aload_n cm_211 dX11_worksTold_85 rfl rfl
theorem x211_86 : Ev L xs ρ 211 86 [l0, l1, l2] (.ref a :: st) (n, I, Lm, Rm) r ↔ (a < n ∧ shp a = (0, 11)) ∧ Ev L xs ρ 211 89 [l0, l1, l2] (rfv (Rm a 28) :: st) (n, I, Lm, Rm) r := ev_gtR cm_211 dX11_worksTold_86 rfl rfl
theorem x211_89 : Ev L xs 8 211 89 [l0, l1, l2] (.ref b :: .ref a :: []) (n, I, Lm, Rm) r ↔ (a < n ∧ shp a = (0, 11)) ∧ ∃ v n2 I2 L2 R2, Em L xs 176 [.ref a, .ref b] (n, I, Lm, Rm) (v, n2, I2, L2, R2) ∧ Ev L xs 8 211 92 [l0, l1, l2] (v.toList ++ []) (n2, I2, L2, R2) r := ev_cV cm_211 [.ref b] dX11_worksTold_89 rfl rfl rfl rfl (Nat.le_of_ble_eq_true rfl) (rka_lt rfl (by decide)) (Nat.le_of_ble_eq_true rfl)
theorem x211_92 : Ev L xs ρ 211 92 [some (.ref a), l1, l2] st σ r ↔ Ev L xs ρ 211 93 [some (.ref a), l1, l2] (.ref a :: st) σ r := ev_aload_n cm_211 dX11_worksTold_92 rfl rfl
theorem x211_93 : Ev L xs ρ 211 93 [l0, l1, l2] st σ r ↔ Ev L xs ρ 211 94 [l0, l1, l2] (.int (0) :: st) σ r := ev_iconst cm_211 dX11_worksTold_93 (by decide)
theorem x211_94 : Ev L xs ρ 211 94 [l0, l1, l2] (.int x :: .ref a :: st) (n, I, Lm, Rm) r ↔ (a < n ∧ shp a = (0, 11)) ∧ Ev L xs ρ 211 97 [l0, l1, l2] st (n, up2 I a 58 x, Lm, Rm) r := ev_ptI cm_211 dX11_worksTold_94 rfl rfl (Or.inl rfl)
theorem x211_97 : Ev L xs ρ 211 97 [some (.ref a), l1, l2] st σ r ↔ Ev L xs ρ 211 98 [some (.ref a), l1, l2] (.ref a :: st) σ r := ev_aload_n cm_211 dX11_worksTold_97 rfl rfl
theorem x211_98 : Ev L xs ρ 211 98 [l0, l1, l2] st σ r ↔ Ev L xs ρ 211 99 [l0, l1, l2] (.int (0) :: st) σ r := ev_iconst cm_211 dX11_worksTold_98 (by decide)
theorem x211_99 : Ev L xs ρ 211 99 [l0, l1, l2] (.int x :: .ref a :: st) (n, I, Lm, Rm) r ↔ (a < n ∧ shp a = (0, 11)) ∧ Ev L xs ρ 211 102 [l0, l1, l2] st (n, up2 I a 59 x, Lm, Rm) r := ev_ptI cm_211 dX11_worksTold_99 rfl rfl (Or.inl rfl)
theorem x211_102 : Ev L xs ρ 211 102 [some (.ref a), l1, l2] st σ r ↔ Ev L xs ρ 211 103 [some (.ref a), l1, l2] (.ref a :: st) σ r := ev_aload_n cm_211 dX11_worksTold_102 rfl rfl
theorem x211_103 : Ev L xs ρ 211 103 [l0, l1, l2] st σ r ↔ Ev L xs ρ 211 104 [l0, l1, l2] (.int (0) :: st) σ r := ev_iconst cm_211 dX11_worksTold_103 (by decide)
theorem x211_104 : Ev L xs ρ 211 104 [l0, l1, l2] (.int x :: .ref a :: st) (n, I, Lm, Rm) r ↔ (a < n ∧ shp a = (0, 11)) ∧ Ev L xs ρ 211 107 [l0, l1, l2] st (n, up2 I a 65 x, Lm, Rm) r := ev_ptI cm_211 dX11_worksTold_104 rfl rfl (Or.inl rfl)
theorem x211_107 : Ev L xs ρ 211 107 [some (.ref a), l1, l2] st σ r ↔ Ev L xs ρ 211 108 [some (.ref a), l1, l2] (.ref a :: st) σ r := ev_aload_n cm_211 dX11_worksTold_107 rfl rfl
theorem x211_108 : Ev L xs ρ 211 108 [l0, l1, l2] (.ref a :: st) (n, I, Lm, Rm) r ↔ (a < n ∧ shp a = (0, 11)) ∧ Ev L xs ρ 211 111 [l0, l1, l2] (.int (I a 5) :: st) (n, I, Lm, Rm) r := ev_gtI cm_211 dX11_worksTold_108 rfl rfl
theorem x211_111 : Ev L xs ρ 211 111 [l0, l1, l2] (.int x :: st) σ r ↔ if x = 0 then Ev L xs ρ 211 114 [l0, l1, l2] st σ r else Ev L xs ρ 211 118 [l0, l1, l2] st σ r := ev_ifne cm_211 dX11_worksTold_111 (by decide)
theorem x211_114 : Ev L xs ρ 211 114 [some (.ref a), l1, l2] st σ r ↔ Ev L xs ρ 211 115 [some (.ref a), l1, l2] (.ref a :: st) σ r := ev_aload_n cm_211 dX11_worksTold_114 rfl rfl
theorem x211_115 : Ev L xs 8 211 115 [l0, l1, l2] (.ref a :: []) (n, I, Lm, Rm) r ↔ (a < n ∧ shp a = (0, 11)) ∧ ∃ v n2 I2 L2 R2, Em L xs 209 [.ref a] (n, I, Lm, Rm) (v, n2, I2, L2, R2) ∧ Ev L xs 8 211 118 [l0, l1, l2] (v.toList ++ []) (n2, I2, L2, R2) r := ev_cV cm_211 [] dX11_worksTold_115 rfl rfl rfl rfl (Nat.le_of_ble_eq_true rfl) (rka_lt rfl (by decide)) (Nat.le_of_ble_eq_true rfl)
theorem x211_118 : Ev L xs ρ 211 118 [some (.ref a), l1, l2] st σ r ↔ Ev L xs ρ 211 119 [some (.ref a), l1, l2] (.ref a :: st) σ r := ev_aload_n cm_211 dX11_worksTold_118 rfl rfl
theorem x211_119 : Ev L xs ρ 211 119 [l0, l1, l2] (.ref a :: st) (n, I, Lm, Rm) r ↔ (a < n ∧ shp a = (0, 11)) ∧ Ev L xs ρ 211 122 [l0, l1, l2] (rfv (Rm a 64) :: st) (n, I, Lm, Rm) r := ev_gtR cm_211 dX11_worksTold_119 rfl rfl
theorem x211_122 : Ev L xs ρ 211 122 [l0, l1, some (.int x)] st σ r ↔ Ev L xs ρ 211 123 [l0, l1, some (.int x)] (.int x :: st) σ r := ev_iload_n cm_211 dX11_worksTold_122 rfl rfl
theorem x211_123 : Ev L xs ρ 211 123 [some (.ref a), l1, l2] st σ r ↔ Ev L xs ρ 211 124 [some (.ref a), l1, l2] (.ref a :: st) σ r := ev_aload_n cm_211 dX11_worksTold_123 rfl rfl
theorem x211_124 : Ev L xs ρ 211 124 [l0, l1, l2] (.ref a :: st) (n, I, Lm, Rm) r ↔ (a < n ∧ shp a = (0, 11)) ∧ Ev L xs ρ 211 127 [l0, l1, l2] (.int (I a 56) :: st) (n, I, Lm, Rm) r := ev_gtI cm_211 dX11_worksTold_124 rfl rfl
theorem x211_127 : Ev L xs ρ 211 127 [l0, l1, l2] (.int y :: .int x :: .ref a :: st) (n, I, Lm, Rm) r ↔ ((a < n ∧ (shp a).1 = 1) ∧ inb x (shp a).2) ∧ Ev L xs ρ 211 128 [l0, l1, l2] st (n, up2 I a (ixn x) y, Lm, Rm) r := ev_iast cm_211 dX11_worksTold_127
theorem x211_128 : Ev L xs ρ 211 128 [some (.ref a), l1, l2] st σ r ↔ Ev L xs ρ 211 129 [some (.ref a), l1, l2] (.ref a :: st) σ r := ev_aload_n cm_211 dX11_worksTold_128 rfl rfl
theorem x211_129 : Ev L xs ρ 211 129 [l0, l1, l2] (.ref a :: st) (n, I, Lm, Rm) r ↔ (a < n ∧ shp a = (0, 11)) ∧ Ev L xs ρ 211 132 [l0, l1, l2] (rfv (Rm a 60) :: st) (n, I, Lm, Rm) r := ev_gtR cm_211 dX11_worksTold_129 rfl rfl
theorem x211_132 : Ev L xs ρ 211 132 [l0, l1, l2] st σ r ↔ Ev L xs ρ 211 133 [l0, l1, l2] (.int (1) :: st) σ r := ev_iconst cm_211 dX11_worksTold_132 (by decide)
theorem x211_133 : Ev L xs ρ 211 133 [l0, l1, l2] (.int x :: .ref a :: st) σ r ↔ Ev L xs ρ 211 134 [l0, l1, l2] (.int x :: .ref a :: .int x :: .ref a :: st) σ r := ev_nx (ev_ex cm_211 dX11_worksTold_133 rfl rfl)
theorem x211_134 : Ev L xs ρ 211 134 [l0, l1, l2] (.int x :: .ref a :: st) (n, I, Lm, Rm) r ↔ ((a < n ∧ (shp a).1 = 1) ∧ inb x (shp a).2) ∧ Ev L xs ρ 211 135 [l0, l1, l2] (.int (I a (ixn x)) :: st) (n, I, Lm, Rm) r := ev_iald cm_211 dX11_worksTold_134 (by decide)
theorem x211_135 : Ev L xs ρ 211 135 [l0, l1, l2] st σ r ↔ Ev L xs ρ 211 136 [l0, l1, l2] (.int (1) :: st) σ r := ev_iconst cm_211 dX11_worksTold_135 (by decide)
theorem x211_136 : Ev L xs ρ 211 136 [l0, l1, l2] (.int y :: .int x :: st) σ r ↔ Ev L xs ρ 211 137 [l0, l1, l2] (.int (x + y) :: st) σ r := ev_nx (ev_ex cm_211 dX11_worksTold_136 rfl rfl)
theorem x211_137 : Ev L xs ρ 211 137 [l0, l1, l2] (.int y :: .int x :: .ref a :: st) (n, I, Lm, Rm) r ↔ ((a < n ∧ (shp a).1 = 1) ∧ inb x (shp a).2) ∧ Ev L xs ρ 211 138 [l0, l1, l2] st (n, up2 I a (ixn x) y, Lm, Rm) r := ev_iast cm_211 dX11_worksTold_137
theorem x211_138 : Ev L xs ρ 211 138 [l0, l1, l2] [] σ r ↔ r = (none, σ) := ev_retv cm_211 dX11_worksTold_138 rfl
end
