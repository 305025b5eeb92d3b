section
variable {L : Nat} {xs : Nat → Int32} {ρ n : Nat} {st : List Value} {σ : Mm} {r : Option Value × Mm} {I : Nat → Nat → Int32} {Lm : Nat → Nat → Int64} {Rm : Nat → Nat → Nat}
variable {l0 l1 l2 l3 l4 l5 l6 l7 l8 : Option Value} {x y z x3 x4 x5 x6 x7 : Int32} {u v u1 u2 u3 u4 : Int64} {a b c a3 a4 : Nat}
theorem cm_58 : mcd 58 = cX5_init := rfl
theorem em_58 : Em L xs 58 [.ref a, .int x] σ r ↔ Ev L xs 2 58 0 [some (.ref a), some (.int x)] [] σ r := Iff.rfl
theorem x58_0 : Ev L xs ρ 58 0 [some (.ref a), l1] st σ r ↔ Ev L xs ρ 58 1 [some (.ref a), l1] (.ref a :: st) σ r := ev_aload_n cm_58 dX5_init_0 rfl rfl
theorem x58_1 : Ev L xs ρ 58 1 [l0, l1] (.ref a :: []) σ r ↔ Ev L xs ρ 58 4 [l0, l1] [] σ r := ev_oi cm_58 dX5_init_1 rfl (Nat.le_of_ble_eq_true rfl)
theorem x58_4 : Ev L xs ρ 58 4 [some (.ref a), l1] st σ r ↔ Ev L xs ρ 58 5 [some (.ref a), l1] (.ref a :: st) σ r := ev_aload_n cm_58 dX5_init_4 rfl rfl
theorem x58_5 : Ev L xs ρ 58 5 [l0, l1] st (n, I, Lm, Rm) r ↔ (n < NNN ∧ shp n = (0, 1)) ∧ Ev L xs ρ 58 8 [l0, l1] (.ref n :: st) (n + 1, zr2 I n 0, zr2 Lm n 0, zr2 Rm n 0) r := ev_new cm_58 dX5_init_5 rfl
theorem x58_8 : Ev L xs ρ 58 8 [l0, l1] (.ref a :: st) σ r ↔ Ev L xs ρ 58 9 [l0, l1] (.ref a :: .ref a :: st) σ r := ev_nx (ev_ex cm_58 dX5_init_8 rfl rfl)
theorem x58_9 : Ev L xs 2 58 9 [l0, l1] (.ref c :: .ref b :: .ref a :: []) (n, I, Lm, Rm) r ↔ (c < n ∧ shp c = (0, 1)) ∧ ∃ v n2 I2 L2 R2, Em L xs 5 [.ref c] (n, I, Lm, Rm) (v, n2, I2, L2, R2) ∧ Ev L xs 2 58 12 [l0, l1] (v.toList ++ (.ref b :: .ref a :: [])) (n2, I2, L2, R2) r := ev_cI cm_58 [] dX5_init_9 rfl rfl rfl rfl (Nat.le_of_ble_eq_true rfl) (rka_lt rfl (by decide)) (Nat.le_of_ble_eq_true rfl)
theorem x58_12 : Ev L xs ρ 58 12 [l0, l1] (.ref b :: .ref a :: st) (n, I, Lm, Rm) r ↔ (a < n ∧ shp a = (0, 5)) ∧ Ev L xs ρ 58 15 [l0, l1] st (n, I, Lm, up2 Rm a 0 (b + 1)) r := ev_ptR cm_58 dX5_init_12 rfl rfl (Or.inr ⟨rfl, rfl⟩)
theorem x58_15 : Ev L xs ρ 58 15 [some (.ref a), l1] st σ r ↔ Ev L xs ρ 58 16 [some (.ref a), l1] (.ref a :: st) σ r := ev_aload_n cm_58 dX5_init_15 rfl rfl
theorem x58_16 : Ev L xs ρ 58 16 [l0, l1] st (n, I, Lm, Rm) r ↔ (n < NNN ∧ shp n = (0, 0)) ∧ Ev L xs ρ 58 19 [l0, l1] (.ref n :: st) (n + 1, zr2 I n 0, zr2 Lm n 0, zr2 Rm n 0) r := ev_new cm_58 dX5_init_16 rfl
theorem x58_19 : Ev L xs ρ 58 19 [l0, l1] (.ref a :: st) σ r ↔ Ev L xs ρ 58 20 [l0, l1] (.ref a :: .ref a :: st) σ r := ev_nx (ev_ex cm_58 dX5_init_19 rfl rfl)
theorem x58_20 : Ev L xs 2 58 20 [l0, l1] (.ref c :: .ref b :: .ref a :: []) (n, I, Lm, Rm) r ↔ (c < n ∧ shp c = (0, 0)) ∧ ∃ v n2 I2 L2 R2, Em L xs 0 [.ref c] (n, I, Lm, Rm) (v, n2, I2, L2, R2) ∧ Ev L xs 2 58 23 [l0, l1] (v.toList ++ (.ref b :: .ref a :: [])) (n2, I2, L2, R2) r := ev_cI cm_58 [] dX5_init_20 rfl rfl rfl rfl (Nat.le_of_ble_eq_true rfl) (rka_lt rfl (by decide)) (Nat.le_of_ble_eq_true rfl)
theorem x58_23 : Ev L xs ρ 58 23 [l0, l1] (.ref b :: .ref a :: st) (n, I, Lm, Rm) r ↔ (a < n ∧ shp a = (0, 5)) ∧ Ev L xs ρ 58 26 [l0, l1] st (n, I, Lm, up2 Rm a 2 (b + 1)) r := ev_ptR cm_58 dX5_init_23 rfl rfl (Or.inr ⟨rfl, rfl⟩)
theorem x58_26 : Ev L xs ρ 58 26 [some (.ref a), l1] st σ r ↔ Ev L xs ρ 58 27 [some (.ref a), l1] (.ref a :: st) σ r := ev_aload_n cm_58 dX5_init_26 rfl rfl
theorem x58_27 : Ev L xs ρ 58 27 [l0, l1] st (n, I, Lm, Rm) r ↔ (n < NNN ∧ shp n = (0, 6)) ∧ Ev L xs ρ 58 30 [l0, l1] (.ref n :: st) (n + 1, zr2 I n 0, zr2 Lm n 0, zr2 Rm n 0) r := ev_new cm_58 dX5_init_27 rfl
theorem x58_30 : Ev L xs ρ 58 30 [l0, l1] (.ref a :: st) σ r ↔ Ev L xs ρ 58 31 [l0, l1] (.ref a :: .ref a :: st) σ r := ev_nx (ev_ex cm_58 dX5_init_30 rfl rfl)
theorem x58_31 : Ev L xs 2 58 31 [l0, l1] (.ref c :: .ref b :: .ref a :: []) (n, I, Lm, Rm) r ↔ (c < n ∧ shp c = (0, 6)) ∧ ∃ v n2 I2 L2 R2, Em L xs 86 [.ref c] (n, I, Lm, Rm) (v, n2, I2, L2, R2) ∧ Ev L xs 2 58 34 [l0, l1] (v.toList ++ (.ref b :: .ref a :: [])) (n2, I2, L2, R2) r := ev_cI cm_58 [] dX5_init_31 rfl rfl rfl rfl (Nat.le_of_ble_eq_true rfl) (rka_lt rfl (by decide)) (Nat.le_of_ble_eq_true rfl)
theorem x58_34 : Ev L xs ρ 58 34 [l0, l1] (.ref b :: .ref a :: st) (n, I, Lm, Rm) r ↔ (a < n ∧ shp a = (0, 5)) ∧ Ev L xs ρ 58 37 [l0, l1] st (n, I, Lm, up2 Rm a 5 (b + 1)) r := ev_ptR cm_58 dX5_init_34 rfl rfl (Or.inl rfl)
theorem x58_37 : Ev L xs ρ 58 37 [some (.ref a), l1] st σ r ↔ Ev L xs ρ 58 38 [some (.ref a), l1] (.ref a :: st) σ r := ev_aload_n cm_58 dX5_init_37 rfl rfl
theorem x58_38 : Ev L xs ρ 58 38 [l0, l1] st σ r ↔ Ev L xs ρ 58 40 [l0, l1] (.int (40) :: st) σ r := ev_bipush cm_58 dX5_init_38 (by decide)
theorem x58_40 : Ev L xs ρ 58 40 [l0, l1] (.int x :: .ref a :: st) (n, I, Lm, Rm) r ↔ (a < n ∧ shp a = (0, 5)) ∧ Ev L xs ρ 58 43 [l0, l1] st (n, up2 I a 6 x, Lm, Rm) r := ev_ptI cm_58 dX5_init_40 rfl rfl (Or.inl rfl)
theorem x58_43 : Ev L xs ρ 58 43 [some (.ref a), l1] st σ r ↔ Ev L xs ρ 58 44 [some (.ref a), l1] (.ref a :: st) σ r := ev_aload_n cm_58 dX5_init_43 rfl rfl
theorem x58_44 : Ev L xs ρ 58 44 [l0, l1] st σ r ↔ Ev L xs ρ 58 45 [l0, l1] (.int (0) :: st) σ r := ev_iconst cm_58 dX5_init_44 (by decide)
theorem x58_45 : Ev L xs ρ 58 45 [l0, some (.int x)] st σ r ↔ Ev L xs ρ 58 46 [l0, some (.int x)] (.int x :: st) σ r := ev_iload_n cm_58 dX5_init_45 rfl rfl
theorem x58_46 : Ev L xs 2 58 46 [l0, l1] (.int y :: .int x :: .ref a :: []) σ r ↔ ∃ v n2 I2 L2 R2, Em L xs 296 [.int x, .int y] σ (v, n2, I2, L2, R2) ∧ Ev L xs 2 58 49 [l0, l1] (v.toList ++ (.ref a :: [])) (n2, I2, L2, R2) r := ev_cS cm_58 [.int x, .int y] dX5_init_46 rfl rfl rfl (Nat.le_of_ble_eq_true rfl) (rka_lt rfl (by decide)) (Nat.le_of_ble_eq_true rfl)
theorem x58_49 : Ev L xs ρ 58 49 [l0, l1] (.int x :: .ref a :: st) (n, I, Lm, Rm) r ↔ (a < n ∧ shp a = (0, 5)) ∧ Ev L xs ρ 58 52 [l0, l1] st (n, up2 I a 4 x, Lm, Rm) r := ev_ptI cm_58 dX5_init_49 rfl rfl (Or.inr ⟨rfl, rfl⟩)
theorem x58_52 : Ev L xs ρ 58 52 [some (.ref a), l1] st σ r ↔ Ev L xs ρ 58 53 [some (.ref a), l1] (.ref a :: st) σ r := ev_aload_n cm_58 dX5_init_52 rfl rfl
theorem x58_53 : Ev L xs ρ 58 53 [l0, l1] st (n, I, Lm, Rm) r ↔ (n < NNN ∧ shp n = (0, 2)) ∧ Ev L xs ρ 58 56 [l0, l1] (.ref n :: st) (n + 1, zr2 I n 0, zr2 Lm n 0, zr2 Rm n 0) r := ev_new cm_58 dX5_init_53 rfl
theorem x58_56 : Ev L xs ρ 58 56 [l0, l1] (.ref a :: st) σ r ↔ Ev L xs ρ 58 57 [l0, l1] (.ref a :: .ref a :: st) σ r := ev_nx (ev_ex cm_58 dX5_init_56 rfl rfl)
theorem x58_57 : Ev L xs ρ 58 57 [some (.ref a), l1] st σ r ↔ Ev L xs ρ 58 58 [some (.ref a), l1] (.ref a :: st) σ r := ev_aload_n cm_58 dX5_init_57 rfl rfl
theorem x58_58 : Ev L xs ρ 58 58 [l0, l1] (.ref a :: st) (n, I, Lm, Rm) r ↔ (a < n ∧ shp a = (0, 5)) ∧ Ev L xs ρ 58 61 [l0, l1] (.int (I a 4) :: st) (n, I, Lm, Rm) r := ev_gtI cm_58 dX5_init_58 rfl rfl
theorem x58_61 : Ev L xs 2 58 61 [l0, l1] (.int x :: .ref c :: .ref b :: .ref a :: []) (n, I, Lm, Rm) r ↔ (c < n ∧ shp c = (0, 2)) ∧ ∃ v n2 I2 L2 R2, Em L xs 7 [.ref c, .int x] (n, I, Lm, Rm) (v, n2, I2, L2, R2) ∧ Ev L xs 2 58 64 [l0, l1] (v.toList ++ (.ref b :: .ref a :: [])) (n2, I2, L2, R2) r := ev_cI cm_58 [.int x] dX5_init_61 rfl rfl rfl rfl (Nat.le_of_ble_eq_true rfl) (rka_lt rfl (by decide)) (Nat.le_of_ble_eq_true rfl)
theorem x58_64 : Ev L xs ρ 58 64 [l0, l1] (.ref b :: .ref a :: st) (n, I, Lm, Rm) r ↔ (a < n ∧ shp a = (0, 5)) ∧ Ev L xs ρ 58 67 [l0, l1] st (n, I, Lm, up2 Rm a 1 (b + 1)) r := ev_ptR cm_58 dX5_init_64 rfl rfl (Or.inr ⟨rfl, rfl⟩)
theorem x58_67 : Ev L xs ρ 58 67 [some (.ref a), l1] st σ r ↔ Ev L xs ρ 58 68 [some (.ref a), l1] (.ref a :: st) σ r := ev_aload_n cm_58 dX5_init_67 rfl rfl
theorem x58_68 : Ev L xs ρ 58 68 [l0, l1] st σ r ↔ Ev L xs ρ 58 70 [l0, l1] (.int (60) :: st) σ r := ev_bipush cm_58 dX5_init_68 (by decide)
theorem x58_70 : Ev L xs ρ 58 70 [some (.ref a), l1] st σ r ↔ Ev L xs ρ 58 71 [some (.ref a), l1] (.ref a :: st) σ r := ev_aload_n cm_58 dX5_init_70 rfl rfl
theorem x58_71 : Ev L xs ρ 58 71 [l0, l1] (.ref a :: st) (n, I, Lm, Rm) r ↔ (a < n ∧ shp a = (0, 5)) ∧ Ev L xs ρ 58 74 [l0, l1] (.int (I a 4) :: st) (n, I, Lm, Rm) r := ev_gtI cm_58 dX5_init_71 rfl rfl
theorem x58_74 : Ev L xs ρ 58 74 [l0, l1] (.int y :: .int x :: st) σ r ↔ Ev L xs ρ 58 75 [l0, l1] (.int (x * y) :: st) σ r := ev_nx (ev_ex cm_58 dX5_init_74 rfl rfl)
theorem x58_75 : Ev L xs ρ 58 75 [l0, l1] (.int x :: st) (n, I, Lm, Rm) r ↔ ((n < NNN ∧ (shp n).1 = 1) ∧ (0 ≤ x.toInt ∧ x.toInt = (shp n).2)) ∧ Ev L xs ρ 58 77 [l0, l1] (.ref n :: st) (n + 1, zr2 I n 0, zr2 Lm n 0, zr2 Rm n 0) r := ev_nwi cm_58 dX5_init_75
theorem x58_77 : Ev L xs ρ 58 77 [l0, l1] (.ref b :: .ref a :: st) (n, I, Lm, Rm) r ↔ (a < n ∧ shp a = (0, 5)) ∧ Ev L xs ρ 58 80 [l0, l1] st (n, I, Lm, up2 Rm a 3 (b + 1)) r := ev_ptR cm_58 dX5_init_77 rfl rfl (Or.inr ⟨rfl, rfl⟩)
theorem x58_80 : Ev L xs ρ 58 80 [l0, l1] [] σ r ↔ r = (none, σ) := ev_retv cm_58 dX5_init_80 rfl
theorem cm_59 : mcd 59 = cX5_clear := rfl
theorem em_59 : Em L xs 59 [.ref a] σ r ↔ Ev L xs 0 59 0 [some (.ref a)] [] σ r := Iff.rfl
theorem x59_0 : Ev L xs ρ 59 0 [some (.ref a)] st σ r ↔ Ev L xs ρ 59 1 [some (.ref a)] (.ref a :: st) σ r := ev_aload_n cm_59 dX5_clear_0 rfl rfl
theorem x59_1 : Ev L xs ρ 59 1 [l0] (.ref a :: st) (n, I, Lm, Rm) r ↔ (a < n ∧ shp a = (0, 5)) ∧ Ev L xs ρ 59 4 [l0] (rfv (Rm a 5) :: st) (n, I, Lm, Rm) r := ev_gtR cm_59 dX5_clear_1 rfl rfl
theorem x59_4 : Ev L xs ρ 59 4 [l0] st σ r ↔ Ev L xs ρ 59 5 [l0] (.int (0) :: st) σ r := ev_iconst cm_59 dX5_clear_4 (by decide)
theorem x59_5 : Ev L xs ρ 59 5 [l0] (.int x :: .ref a :: st) (n, I, Lm, Rm) r ↔ (a < n ∧ shp a = (0, 6)) ∧ Ev L xs ρ 59 8 [l0] st (n, up2 I a 6 x, Lm, Rm) r := ev_ptI cm_59 dX5_clear_5 rfl rfl (Or.inl rfl)
theorem x59_8 : Ev L xs ρ 59 8 [some (.ref a)] st σ r ↔ Ev L xs ρ 59 9 [some (.ref a)] (.ref a :: st) σ r := ev_aload_n cm_59 dX5_clear_8 rfl rfl
theorem x59_9 : Ev L xs ρ 59 9 [l0] (.ref a :: st) (n, I, Lm, Rm) r ↔ (a < n ∧ shp a = (0, 5)) ∧ Ev L xs ρ 59 12 [l0] (rfv (Rm a 0) :: st) (n, I, Lm, Rm) r := ev_gtR cm_59 dX5_clear_9 rfl rfl
theorem x59_12 : Ev L xs ρ 59 12 [l0] st σ r ↔ Ev L xs ρ 59 13 [l0] (.int (0) :: st) σ r := ev_iconst cm_59 dX5_clear_12 (by decide)
theorem x59_13 : Ev L xs ρ 59 13 [l0] (.int x :: .ref a :: st) (n, I, Lm, Rm) r ↔ (a < n ∧ shp a = (0, 1)) ∧ Ev L xs ρ 59 16 [l0] st (n, up2 I a 5 x, Lm, Rm) r := ev_ptI cm_59 dX5_clear_13 rfl rfl (Or.inl rfl)
theorem x59_16 : Ev L xs ρ 59 16 [some (.ref a)] st σ r ↔ Ev L xs ρ 59 17 [some (.ref a)] (.ref a :: st) σ r := ev_aload_n cm_59 dX5_clear_16 rfl rfl
theorem x59_17 : Ev L xs ρ 59 17 [l0] (.ref a :: st) (n, I, Lm, Rm) r ↔ (a < n ∧ shp a = (0, 5)) ∧ Ev L xs ρ 59 20 [l0] (rfv (Rm a 1) :: st) (n, I, Lm, Rm) r := ev_gtR cm_59 dX5_clear_17 rfl rfl
theorem x59_20 : Ev L xs ρ 59 20 [l0] st σ r ↔ Ev L xs ρ 59 21 [l0] (.int (0) :: st) σ r := ev_iconst cm_59 dX5_clear_20 (by decide)
theorem x59_21 : Ev L xs ρ 59 21 [l0] (.int x :: .ref a :: st) (n, I, Lm, Rm) r ↔ (a < n ∧ shp a = (0, 2)) ∧ Ev L xs ρ 59 24 [l0] st (n, up2 I a 8 x, Lm, Rm) r := ev_ptI cm_59 dX5_clear_21 rfl rfl (Or.inl rfl)
theorem x59_24 : Ev L xs ρ 59 24 [some (.ref a)] st σ r ↔ Ev L xs ρ 59 25 [some (.ref a)] (.ref a :: st) σ r := ev_aload_n cm_59 dX5_clear_24 rfl rfl
theorem x59_25 : Ev L xs ρ 59 25 [l0] (.ref a :: st) (n, I, Lm, Rm) r ↔ (a < n ∧ shp a = (0, 5)) ∧ Ev L xs ρ 59 28 [l0] (rfv (Rm a 1) :: st) (n, I, Lm, Rm) r := ev_gtR cm_59 dX5_clear_25 rfl rfl
theorem x59_28 : Ev L xs ρ 59 28 [l0] st σ r ↔ Ev L xs ρ 59 29 [l0] (.int (0) :: st) σ r := ev_iconst cm_59 dX5_clear_28 (by decide)
theorem x59_29 : Ev L xs ρ 59 29 [l0] (.int x :: .ref a :: st) (n, I, Lm, Rm) r ↔ (a < n ∧ shp a = (0, 2)) ∧ Ev L xs ρ 59 32 [l0] st (n, up2 I a 9 x, Lm, Rm) r := ev_ptI cm_59 dX5_clear_29 rfl rfl (Or.inl rfl)
theorem x59_32 : Ev L xs ρ 59 32 [some (.ref a)] st σ r ↔ Ev L xs ρ 59 33 [some (.ref a)] (.ref a :: st) σ r := ev_aload_n cm_59 dX5_clear_32 rfl rfl
theorem x59_33 : Ev L xs ρ 59 33 [l0] st σ r ↔ Ev L xs ρ 59 35 [l0] (.int (40) :: st) σ r := ev_bipush cm_59 dX5_clear_33 (by decide)
theorem x59_35 : Ev L xs ρ 59 35 [l0] (.int x :: .ref a :: st) (n, I, Lm, Rm) r ↔ (a < n ∧ shp a = (0, 5)) ∧ Ev L xs ρ 59 38 [l0] st (n, up2 I a 6 x, Lm, Rm) r := ev_ptI cm_59 dX5_clear_35 rfl rfl (Or.inl rfl)
theorem x59_38 : Ev L xs ρ 59 38 [l0] [] σ r ↔ r = (none, σ) := ev_retv cm_59 dX5_clear_38 rfl
theorem cm_60 : mcd 60 = cX5_copyOf := rfl
theorem em_60 : Em L xs 60 [.ref a, .ref b] σ r ↔ Ev L xs 2 60 0 [some (.ref a), some (.ref b)] [] σ r := Iff.rfl
theorem x60_0 : Ev L xs ρ 60 0 [some (.ref a), l1] st σ r ↔ Ev L xs ρ 60 1 [some (.ref a), l1] (.ref a :: st) σ r := ev_aload_n cm_60 dX5_copyOf_0 rfl rfl
theorem x60_1 : Ev L xs ρ 60 1 [l0, some (.ref a)] st σ r ↔ Ev L xs ρ 60 2 [l0, some (.ref a)] (.ref a :: st) σ r := ev_aload_n cm_60 dX5_copyOf_1 rfl rfl
theorem x60_2 : Ev L xs ρ 60 2 [l0, l1] (.ref a :: st) (n, I, Lm, Rm) r ↔ (a < n ∧ shp a = (0, 5)) ∧ Ev L xs ρ 60 5 [l0, l1] (rfv (Rm a 5) :: st) (n, I, Lm, Rm) r := ev_gtR cm_60 dX5_copyOf_2 rfl rfl
theorem x60_5 : Ev L xs ρ 60 5 [l0, l1] (.ref b :: .ref a :: st) (n, I, Lm, Rm) r ↔ (a < n ∧ shp a = (0, 5)) ∧ Ev L xs ρ 60 8 [l0, l1] st (n, I, Lm, up2 Rm a 5 (b + 1)) r := ev_ptR cm_60 dX5_copyOf_5 rfl rfl (Or.inl rfl)
theorem x60_8 : Ev L xs ρ 60 8 [some (.ref a), l1] st σ r ↔ Ev L xs ρ 60 9 [some (.ref a), l1] (.ref a :: st) σ r := ev_aload_n cm_60 dX5_copyOf_8 rfl rfl
theorem x60_9 : Ev L xs ρ 60 9 [l0, some (.ref a)] st σ r ↔ Ev L xs ρ 60 10 [l0, some (.ref a)] (.ref a :: st) σ r := ev_aload_n cm_60 dX5_copyOf_9 rfl rfl
theorem x60_10 : Ev L xs ρ 60 10 [l0, l1] (.ref a :: st) (n, I, Lm, Rm) r ↔ (a < n ∧ shp a = (0, 5)) ∧ Ev L xs ρ 60 13 [l0, l1] (.int (I a 6) :: st) (n, I, Lm, Rm) r := ev_gtI cm_60 dX5_copyOf_10 rfl rfl
theorem x60_13 : Ev L xs ρ 60 13 [l0, l1] (.int x :: .ref a :: st) (n, I, Lm, Rm) r ↔ (a < n ∧ shp a = (0, 5)) ∧ Ev L xs ρ 60 16 [l0, l1] st (n, up2 I a 6 x, Lm, Rm) r := ev_ptI cm_60 dX5_copyOf_13 rfl rfl (Or.inl rfl)
theorem x60_16 : Ev L xs ρ 60 16 [some (.ref a), l1] st σ r ↔ Ev L xs ρ 60 17 [some (.ref a), l1] (.ref a :: st) σ r := ev_aload_n cm_60 dX5_copyOf_16 rfl rfl
theorem x60_17 : Ev L xs ρ 60 17 [l0, l1] (.ref a :: st) (n, I, Lm, Rm) r ↔ (a < n ∧ shp a = (0, 5)) ∧ Ev L xs ρ 60 20 [l0, l1] (rfv (Rm a 0) :: st) (n, I, Lm, Rm) r := ev_gtR cm_60 dX5_copyOf_17 rfl rfl
theorem x60_20 : Ev L xs ρ 60 20 [l0, some (.ref a)] st σ r ↔ Ev L xs ρ 60 21 [l0, some (.ref a)] (.ref a :: st) σ r := ev_aload_n cm_60 dX5_copyOf_20 rfl rfl
theorem x60_21 : Ev L xs ρ 60 21 [l0, l1] (.ref a :: st) (n, I, Lm, Rm) r ↔ (a < n ∧ shp a = (0, 5)) ∧ Ev L xs ρ 60 24 [l0, l1] (rfv (Rm a 0) :: st) (n, I, Lm, Rm) r := ev_gtR cm_60 dX5_copyOf_21 rfl rfl
theorem x60_24 : Ev L xs 2 60 24 [l0, l1] (.ref b :: .ref a :: []) (n, I, Lm, Rm) r ↔ (a < n ∧ shp a = (0, 1)) ∧ ∃ v n2 I2 L2 R2, Em L xs 6 [.ref a, .ref b] (n, I, Lm, Rm) (v, n2, I2, L2, R2) ∧ Ev L xs 2 60 27 [l0, l1] (v.toList ++ []) (n2, I2, L2, R2) r := ev_cV cm_60 [.ref b] dX5_copyOf_24 rfl rfl rfl rfl (Nat.le_of_ble_eq_true rfl) (rka_lt rfl (by decide)) (Nat.le_of_ble_eq_true rfl)
theorem x60_27 : Ev L xs ρ 60 27 [some (.ref a), l1] st σ r ↔ Ev L xs ρ 60 28 [some (.ref a), l1] (.ref a :: st) σ r := ev_aload_n cm_60 dX5_copyOf_27 rfl rfl
theorem x60_28 : Ev L xs ρ 60 28 [l0, l1] (.ref a :: st) (n, I, Lm, Rm) r ↔ (a < n ∧ shp a = (0, 5)) ∧ Ev L xs ρ 60 31 [l0, l1] (rfv (Rm a 1) :: st) (n, I, Lm, Rm) r := ev_gtR cm_60 dX5_copyOf_28 rfl rfl
theorem x60_31 : Ev L xs ρ 60 31 [l0, some (.ref a)] st σ r ↔ Ev L xs ρ 60 32 [l0, some (.ref a)] (.ref a :: st) σ r := ev_aload_n cm_60 dX5_copyOf_31 rfl rfl
theorem x60_32 : Ev L xs ρ 60 32 [l0, l1] (.ref a :: st) (n, I, Lm, Rm) r ↔ (a < n ∧ shp a = (0, 5)) ∧ Ev L xs ρ 60 35 [l0, l1] (rfv (Rm a 1) :: st) (n, I, Lm, Rm) r := ev_gtR cm_60 dX5_copyOf_32 rfl rfl
theorem x60_35 : Ev L xs 2 60 35 [l0, l1] (.ref b :: .ref a :: []) (n, I, Lm, Rm) r ↔ (a < n ∧ shp a = (0, 2)) ∧ ∃ v n2 I2 L2 R2, Em L xs 8 [.ref a, .ref b] (n, I, Lm, Rm) (v, n2, I2, L2, R2) ∧ Ev L xs 2 60 38 [l0, l1] (v.toList ++ []) (n2, I2, L2, R2) r := ev_cV cm_60 [.ref b] dX5_copyOf_35 rfl rfl rfl rfl (Nat.le_of_ble_eq_true rfl) (rka_lt rfl (by decide)) (Nat.le_of_ble_eq_true rfl)
theorem x60_38 : Ev L xs ρ 60 38 [l0, l1] [] σ r ↔ r = (none, σ) := ev_retv cm_60 dX5_copyOf_38 rfl
theorem cm_61 : mcd 61 = cX5_hasPerson := rfl
theorem em_61 : Em L xs 61 [.ref a, .int x] σ r ↔ Ev L xs 1 61 0 [some (.ref a), some (.int x)] [] σ r := Iff.rfl
theorem x61_0 : Ev L xs ρ 61 0 [l0, some (.int x)] st σ r ↔ Ev L xs ρ 61 1 [l0, some (.int x)] (.int x :: st) σ r := ev_iload_n cm_61 dX5_hasPerson_0 rfl rfl
theorem x61_1 : Ev L xs ρ 61 1 [some (.ref a), l1] st σ r ↔ Ev L xs ρ 61 2 [some (.ref a), l1] (.ref a :: st) σ r := ev_aload_n cm_61 dX5_hasPerson_1 rfl rfl
theorem x61_2 : Ev L xs ρ 61 2 [l0, l1] (.ref a :: st) (n, I, Lm, Rm) r ↔ (a < n ∧ shp a = (0, 5)) ∧ Ev L xs ρ 61 5 [l0, l1] (rfv (Rm a 1) :: st) (n, I, Lm, Rm) r := ev_gtR cm_61 dX5_hasPerson_2 rfl rfl
theorem x61_5 : Ev L xs ρ 61 5 [l0, l1] (.ref a :: st) (n, I, Lm, Rm) r ↔ (a < n ∧ shp a = (0, 2)) ∧ Ev L xs ρ 61 8 [l0, l1] (.int (I a 8) :: st) (n, I, Lm, Rm) r := ev_gtI cm_61 dX5_hasPerson_5 rfl rfl
theorem x61_8 : Ev L xs 1 61 8 [l0, l1] (.int y :: .int x :: []) σ r ↔ ∃ v n2 I2 L2 R2, Em L xs 159 [.int x, .int y] σ (v, n2, I2, L2, R2) ∧ Ev L xs 1 61 11 [l0, l1] (v.toList ++ []) (n2, I2, L2, R2) r := ev_cS cm_61 [.int x, .int y] dX5_hasPerson_8 rfl rfl rfl (Nat.le_of_ble_eq_true rfl) (rka_lt rfl (by decide)) (Nat.le_of_ble_eq_true rfl)
theorem x61_11 : Ev L xs ρ 61 11 [l0, l1] [.int x] σ r ↔ (x = 0 ∨ x = 1) ∧ r = (some (.int x), σ) := ev_retz cm_61 dX5_hasPerson_11 rfl
theorem cm_62 : mcd 62 = cX5_canWork := rfl
theorem em_62 : Em L xs 62 [.ref a, .int x] σ r ↔ Ev L xs 0 62 0 [some (.ref a), some (.int x)] [] σ r := Iff.rfl
theorem x62_0 : Ev L xs ρ 62 0 [l0, some (.int x)] st σ r ↔ Ev L xs ρ 62 1 [l0, some (.int x)] (.int x :: st) σ r := ev_iload_n cm_62 dX5_canWork_0 rfl rfl
theorem x62_1 : Ev L xs ρ 62 1 [l0, l1] (.int x :: st) σ r ↔ if x < 0 then Ev L xs ρ 62 16 [l0, l1] st σ r else Ev L xs ρ 62 4 [l0, l1] st σ r := ev_iflt cm_62 dX5_canWork_1 (by decide)
theorem x62_4 : Ev L xs ρ 62 4 [l0, some (.int x)] st σ r ↔ Ev L xs ρ 62 5 [l0, some (.int x)] (.int x :: st) σ r := ev_iload_n cm_62 dX5_canWork_4 rfl rfl
theorem x62_5 : Ev L xs ρ 62 5 [some (.ref a), l1] st σ r ↔ Ev L xs ρ 62 6 [some (.ref a), l1] (.ref a :: st) σ r := ev_aload_n cm_62 dX5_canWork_5 rfl rfl
theorem x62_6 : Ev L xs ρ 62 6 [l0, l1] (.ref a :: st) (n, I, Lm, Rm) r ↔ (a < n ∧ shp a = (0, 5)) ∧ Ev L xs ρ 62 9 [l0, l1] (.int (I a 6) :: st) (n, I, Lm, Rm) r := ev_gtI cm_62 dX5_canWork_6 rfl rfl
theorem x62_9 : Ev L xs ρ 62 9 [l0, l1] (.int y :: .int x :: st) σ r ↔ if y < x then Ev L xs ρ 62 16 [l0, l1] st σ r else Ev L xs ρ 62 12 [l0, l1] st σ r := ev_icgt cm_62 dX5_canWork_9 (by decide)
theorem x62_12 : Ev L xs ρ 62 12 [l0, l1] st σ r ↔ Ev L xs ρ 62 13 [l0, l1] (.int (1) :: st) σ r := ev_iconst cm_62 dX5_canWork_12 (by decide)
theorem x62_13 : Ev L xs ρ 62 13 [l0, l1] st σ r ↔ Ev L xs ρ 62 17 [l0, l1] st σ r := ev_goto cm_62 dX5_canWork_13 (by decide)
theorem x62_16 : Ev L xs ρ 62 16 [l0, l1] st σ r ↔ Ev L xs ρ 62 17 [l0, l1] (.int (0) :: st) σ r := ev_iconst cm_62 dX5_canWork_16 (by decide)
theorem x62_17 : Ev L xs ρ 62 17 [l0, l1] [.int x] σ r ↔ (x = 0 ∨ x = 1) ∧ r = (some (.int x), σ) := ev_retz cm_62 dX5_canWork_17 rfl
theorem cm_63 : mcd 63 = cX5_isPlace := rfl
theorem em_63 : Em L xs 63 [.ref a, .int x] σ r ↔ Ev L xs 1 63 0 [some (.ref a), some (.int x)] [] σ r := Iff.rfl
theorem x63_0 : Ev L xs ρ 63 0 [l0, some (.int x)] st σ r ↔ Ev L xs ρ 63 1 [l0, some (.int x)] (.int x :: st) σ r := ev_iload_n cm_63 dX5_isPlace_0 rfl rfl
theorem x63_1 : Ev L xs ρ 63 1 [l0, l1] st σ r ↔ Ev L xs ρ 63 2 [l0, l1] (.int (-1) :: st) σ r := ev_iconst cm_63 dX5_isPlace_1 (by decide)
theorem x63_2 : Ev L xs ρ 63 2 [l0, l1] (.int y :: .int x :: st) σ r ↔ if x = y then Ev L xs ρ 63 19 [l0, l1] st σ r else Ev L xs ρ 63 5 [l0, l1] st σ r := ev_iceq cm_63 dX5_isPlace_2 (by decide)
theorem x63_5 : Ev L xs ρ 63 5 [l0, some (.int x)] st σ r ↔ Ev L xs ρ 63 6 [l0, some (.int x)] (.int x :: st) σ r := ev_iload_n cm_63 dX5_isPlace_5 rfl rfl
theorem x63_6 : Ev L xs ρ 63 6 [some (.ref a), l1] st σ r ↔ Ev L xs ρ 63 7 [some (.ref a), l1] (.ref a :: st) σ r := ev_aload_n cm_63 dX5_isPlace_6 rfl rfl
theorem x63_7 : Ev L xs ρ 63 7 [l0, l1] (.ref a :: st) (n, I, Lm, Rm) r ↔ (a < n ∧ shp a = (0, 5)) ∧ Ev L xs ρ 63 10 [l0, l1] (rfv (Rm a 0) :: st) (n, I, Lm, Rm) r := ev_gtR cm_63 dX5_isPlace_7 rfl rfl
theorem x63_10 : Ev L xs ρ 63 10 [l0, l1] (.ref a :: st) (n, I, Lm, Rm) r ↔ (a < n ∧ shp a = (0, 1)) ∧ Ev L xs ρ 63 13 [l0, l1] (.int (I a 5) :: st) (n, I, Lm, Rm) r := ev_gtI cm_63 dX5_isPlace_10 rfl rfl
theorem x63_13 : Ev L xs 1 63 13 [l0, l1] (.int y :: .int x :: []) σ r ↔ ∃ v n2 I2 L2 R2, Em L xs 159 [.int x, .int y] σ (v, n2, I2, L2, R2) ∧ Ev L xs 1 63 16 [l0, l1] (v.toList ++ []) (n2, I2, L2, R2) r := ev_cS cm_63 [.int x, .int y] dX5_isPlace_13 rfl rfl rfl (Nat.le_of_ble_eq_true rfl) (rka_lt rfl (by decide)) (Nat.le_of_ble_eq_true rfl)
theorem x63_16 : Ev L xs ρ 63 16 [l0, l1] (.int x :: st) σ r ↔ if x = 0 then Ev L xs ρ 63 23 [l0, l1] st σ r else Ev L xs ρ 63 19 [l0, l1] st σ r := ev_ifeq cm_63 dX5_isPlace_16 (by decide)
theorem x63_19 : Ev L xs ρ 63 19 [l0, l1] st σ r ↔ Ev L xs ρ 63 20 [l0, l1] (.int (1) :: st) σ r := ev_iconst cm_63 dX5_isPlace_19 (by decide)
theorem x63_20 : Ev L xs ρ 63 20 [l0, l1] st σ r ↔ Ev L xs ρ 63 24 [l0, l1] st σ r := ev_goto cm_63 dX5_isPlace_20 (by decide)
theorem x63_23 : Ev L xs ρ 63 23 [l0, l1] st σ r ↔ Ev L xs ρ 63 24 [l0, l1] (.int (0) :: st) σ r := ev_iconst cm_63 dX5_isPlace_23 (by decide)
theorem x63_24 : Ev L xs ρ 63 24 [l0, l1] [.int x] σ r ↔ (x = 0 ∨ x = 1) ∧ r = (some (.int x), σ) := ev_retz cm_63 dX5_isPlace_24 rfl
theorem cm_64 : mcd 64 = cX5_earned := rfl
theorem em_64 : Em L xs 64 [.ref a, .int x] σ r ↔ Ev L xs 1 64 0 [some (.ref a), some (.int x)] [] σ r := Iff.rfl
theorem x64_0 : Ev L xs ρ 64 0 [some (.ref a), l1] st σ r ↔ Ev L xs ρ 64 1 [some (.ref a), l1] (.ref a :: st) σ r := ev_aload_n cm_64 dX5_earned_0 rfl rfl
theorem x64_1 : Ev L xs ρ 64 1 [l0, l1] (.ref a :: st) (n, I, Lm, Rm) r ↔ (a < n ∧ shp a = (0, 5)) ∧ Ev L xs ρ 64 4 [l0, l1] (rfv (Rm a 1) :: st) (n, I, Lm, Rm) r := ev_gtR cm_64 dX5_earned_1 rfl rfl
theorem x64_4 : Ev L xs ρ 64 4 [l0, l1] (.ref a :: st) (n, I, Lm, Rm) r ↔ (a < n ∧ shp a = (0, 2)) ∧ Ev L xs ρ 64 7 [l0, l1] (rfv (Rm a 3) :: st) (n, I, Lm, Rm) r := ev_gtR cm_64 dX5_earned_4 rfl rfl
theorem x64_7 : Ev L xs ρ 64 7 [l0, some (.int x)] st σ r ↔ Ev L xs ρ 64 8 [l0, some (.int x)] (.int x :: st) σ r := ev_iload_n cm_64 dX5_earned_7 rfl rfl
theorem x64_8 : Ev L xs 1 64 8 [l0, l1] (.int x :: .ref a :: []) σ r ↔ ∃ v n2 I2 L2 R2, Em L xs 160 [.ref a, .int x] σ (v, n2, I2, L2, R2) ∧ Ev L xs 1 64 11 [l0, l1] (v.toList ++ []) (n2, I2, L2, R2) r := ev_cS cm_64 [.ref a, .int x] dX5_earned_8 rfl rfl rfl (Nat.le_of_ble_eq_true rfl) (rka_lt rfl (by decide)) (Nat.le_of_ble_eq_true rfl)
theorem x64_11 : Ev L xs ρ 64 11 [some (.ref a), l1] st σ r ↔ Ev L xs ρ 64 12 [some (.ref a), l1] (.ref a :: st) σ r := ev_aload_n cm_64 dX5_earned_11 rfl rfl
theorem x64_12 : Ev L xs ρ 64 12 [l0, l1] (.ref a :: st) (n, I, Lm, Rm) r ↔ (a < n ∧ shp a = (0, 5)) ∧ Ev L xs ρ 64 15 [l0, l1] (rfv (Rm a 5) :: st) (n, I, Lm, Rm) r := ev_gtR cm_64 dX5_earned_12 rfl rfl
theorem x64_15 : Ev L xs ρ 64 15 [l0, l1] (.ref a :: st) (n, I, Lm, Rm) r ↔ (a < n ∧ shp a = (0, 6)) ∧ Ev L xs ρ 64 18 [l0, l1] (rfv (Rm a 1) :: st) (n, I, Lm, Rm) r := ev_gtR cm_64 dX5_earned_15 rfl rfl
theorem x64_18 : Ev L xs ρ 64 18 [some (.ref a), l1] st σ r ↔ Ev L xs ρ 64 19 [some (.ref a), l1] (.ref a :: st) σ r := ev_aload_n cm_64 dX5_earned_18 rfl rfl
theorem x64_19 : Ev L xs ρ 64 19 [l0, l1] (.ref a :: st) (n, I, Lm, Rm) r ↔ (a < n ∧ shp a = (0, 5)) ∧ Ev L xs ρ 64 22 [l0, l1] (rfv (Rm a 1) :: st) (n, I, Lm, Rm) r := ev_gtR cm_64 dX5_earned_19 rfl rfl
theorem x64_22 : Ev L xs ρ 64 22 [l0, l1] (.ref a :: st) (n, I, Lm, Rm) r ↔ (a < n ∧ shp a = (0, 2)) ∧ Ev L xs ρ 64 25 [l0, l1] (rfv (Rm a 1) :: st) (n, I, Lm, Rm) r := ev_gtR cm_64 dX5_earned_22 rfl rfl
theorem x64_25 : Ev L xs ρ 64 25 [l0, some (.int x)] st σ r ↔ Ev L xs ρ 64 26 [l0, some (.int x)] (.int x :: st) σ r := ev_iload_n cm_64 dX5_earned_25 rfl rfl
theorem x64_26 : Ev L xs 1 64 26 [l0, l1] (.int y :: .ref b :: .ref a :: .int x :: []) σ r ↔ ∃ v n2 I2 L2 R2, Em L xs 160 [.ref b, .int y] σ (v, n2, I2, L2, R2) ∧ Ev L xs 1 64 29 [l0, l1] (v.toList ++ (.ref a :: .int x :: [])) (n2, I2, L2, R2) r := ev_cS cm_64 [.ref b, .int y] dX5_earned_26 rfl rfl rfl (Nat.le_of_ble_eq_true rfl) (rka_lt rfl (by decide)) (Nat.le_of_ble_eq_true rfl)
theorem x64_29 : Ev L xs 1 64 29 [l0, l1] (.int y :: .ref a :: .int x :: []) σ r ↔ ∃ v n2 I2 L2 R2, Em L xs 160 [.ref a, .int y] σ (v, n2, I2, L2, R2) ∧ Ev L xs 1 64 32 [l0, l1] (v.toList ++ (.int x :: [])) (n2, I2, L2, R2) r := ev_cS cm_64 [.ref a, .int y] dX5_earned_29 rfl rfl rfl (Nat.le_of_ble_eq_true rfl) (rka_lt rfl (by decide)) (Nat.le_of_ble_eq_true rfl)
theorem x64_32 : Ev L xs ρ 64 32 [l0, l1] (.int y :: .int x :: st) σ r ↔ Ev L xs ρ 64 33 [l0, l1] (.int (x * y) :: st) σ r := ev_nx (ev_ex cm_64 dX5_earned_32 rfl rfl)
theorem x64_33 : Ev L xs ρ 64 33 [l0, l1] [.int x] σ r ↔ r = (some (.int x), σ) := ev_reti cm_64 dX5_earned_33 rfl
theorem cm_65 : mcd 65 = cX5_needOf := rfl
theorem em_65 : Em L xs 65 [.ref a, .int x] σ r ↔ Ev L xs 1 65 0 [some (.ref a), some (.int x)] [] σ r := Iff.rfl
theorem x65_0 : Ev L xs ρ 65 0 [some (.ref a), l1] st σ r ↔ Ev L xs ρ 65 1 [some (.ref a), l1] (.ref a :: st) σ r := ev_aload_n cm_65 dX5_needOf_0 rfl rfl
theorem x65_1 : Ev L xs ρ 65 1 [l0, l1] (.ref a :: st) (n, I, Lm, Rm) r ↔ (a < n ∧ shp a = (0, 5)) ∧ Ev L xs ρ 65 4 [l0, l1] (rfv (Rm a 5) :: st) (n, I, Lm, Rm) r := ev_gtR cm_65 dX5_needOf_1 rfl rfl
theorem x65_4 : Ev L xs ρ 65 4 [l0, l1] (.ref a :: st) (n, I, Lm, Rm) r ↔ (a < n ∧ shp a = (0, 6)) ∧ Ev L xs ρ 65 7 [l0, l1] (rfv (Rm a 5) :: st) (n, I, Lm, Rm) r := ev_gtR cm_65 dX5_needOf_4 rfl rfl
theorem x65_7 : Ev L xs ρ 65 7 [some (.ref a), l1] st σ r ↔ Ev L xs ρ 65 8 [some (.ref a), l1] (.ref a :: st) σ r := ev_aload_n cm_65 dX5_needOf_7 rfl rfl
theorem x65_8 : Ev L xs ρ 65 8 [l0, l1] (.ref a :: st) (n, I, Lm, Rm) r ↔ (a < n ∧ shp a = (0, 5)) ∧ Ev L xs ρ 65 11 [l0, l1] (rfv (Rm a 1) :: st) (n, I, Lm, Rm) r := ev_gtR cm_65 dX5_needOf_8 rfl rfl
theorem x65_11 : Ev L xs ρ 65 11 [l0, l1] (.ref a :: st) (n, I, Lm, Rm) r ↔ (a < n ∧ shp a = (0, 2)) ∧ Ev L xs ρ 65 14 [l0, l1] (rfv (Rm a 1) :: st) (n, I, Lm, Rm) r := ev_gtR cm_65 dX5_needOf_11 rfl rfl
theorem x65_14 : Ev L xs ρ 65 14 [l0, some (.int x)] st σ r ↔ Ev L xs ρ 65 15 [l0, some (.int x)] (.int x :: st) σ r := ev_iload_n cm_65 dX5_needOf_14 rfl rfl
theorem x65_15 : Ev L xs 1 65 15 [l0, l1] (.int x :: .ref b :: .ref a :: []) σ r ↔ ∃ v n2 I2 L2 R2, Em L xs 160 [.ref b, .int x] σ (v, n2, I2, L2, R2) ∧ Ev L xs 1 65 18 [l0, l1] (v.toList ++ (.ref a :: [])) (n2, I2, L2, R2) r := ev_cS cm_65 [.ref b, .int x] dX5_needOf_15 rfl rfl rfl (Nat.le_of_ble_eq_true rfl) (rka_lt rfl (by decide)) (Nat.le_of_ble_eq_true rfl)
theorem x65_18 : Ev L xs 1 65 18 [l0, l1] (.int x :: .ref a :: []) σ r ↔ ∃ v n2 I2 L2 R2, Em L xs 160 [.ref a, .int x] σ (v, n2, I2, L2, R2) ∧ Ev L xs 1 65 21 [l0, l1] (v.toList ++ []) (n2, I2, L2, R2) r := ev_cS cm_65 [.ref a, .int x] dX5_needOf_18 rfl rfl rfl (Nat.le_of_ble_eq_true rfl) (rka_lt rfl (by decide)) (Nat.le_of_ble_eq_true rfl)
theorem x65_21 : Ev L xs ρ 65 21 [l0, l1] [.int x] σ r ↔ r = (some (.int x), σ) := ev_reti cm_65 dX5_needOf_21 rfl
theorem cm_66 : mcd 66 = cX5_slip := rfl
theorem em_66 : Em L xs 66 [.ref a, .int x] σ r ↔ Ev L xs 2 66 0 [some (.ref a), some (.int x), none] [] σ r := Iff.rfl
theorem x66_0 : Ev L xs ρ 66 0 [some (.ref a), l1, l2] st σ r ↔ Ev L xs ρ 66 1 [some (.ref a), l1, l2] (.ref a :: st) σ r := ev_aload_n cm_66 dX5_slip_0 rfl rfl
theorem x66_1 : Ev L xs ρ 66 1 [l0, l1, l2] (.ref a :: st) (n, I, Lm, Rm) r ↔ (a < n ∧ shp a = (0, 5)) ∧ Ev L xs ρ 66 4 [l0, l1, l2] (rfv (Rm a 1) :: st) (n, I, Lm, Rm) r := ev_gtR cm_66 dX5_slip_1 rfl rfl
theorem x66_4 : Ev L xs ρ 66 4 [l0, l1, l2] (.ref a :: st) (n, I, Lm, Rm) r ↔ (a < n ∧ shp a = (0, 2)) ∧ Ev L xs ρ 66 7 [l0, l1, l2] (rfv (Rm a 2) :: st) (n, I, Lm, Rm) r := ev_gtR cm_66 dX5_slip_4 rfl rfl
theorem x66_7 : Ev L xs ρ 66 7 [l0, some (.int x), l2] st σ r ↔ Ev L xs ρ 66 8 [l0, some (.int x), l2] (.int x :: st) σ r := ev_iload_n cm_66 dX5_slip_7 rfl rfl
theorem x66_8 : Ev L xs 2 66 8 [l0, l1, l2] (.int x :: .ref a :: []) σ r ↔ ∃ v n2 I2 L2 R2, Em L xs 160 [.ref a, .int x] σ (v, n2, I2, L2, R2) ∧ Ev L xs 2 66 11 [l0, l1, l2] (v.toList ++ []) (n2, I2, L2, R2) r := ev_cS cm_66 [.ref a, .int x] dX5_slip_8 rfl rfl rfl (Nat.le_of_ble_eq_true rfl) (rka_lt rfl (by decide)) (Nat.le_of_ble_eq_true rfl)
theorem x66_11 : Ev L xs ρ 66 11 [l0, l1, l2] (.int x :: st) σ r ↔ Ev L xs ρ 66 12 [l0, l1, some (.int x)] st σ r := ev_istore_n cm_66 dX5_slip_11 rfl (Nat.le_of_ble_eq_true rfl)
theorem x66_12 : Ev L xs ρ 66 12 [l0, l1, some (.int x)] st σ r ↔ Ev L xs ρ 66 13 [l0, l1, some (.int x)] (.int x :: st) σ r := ev_iload_n cm_66 dX5_slip_12 rfl rfl
theorem x66_13 : Ev L xs ρ 66 13 [l0, l1, l2] (.int x :: st) σ r ↔ if 0 ≤ x then Ev L xs ρ 66 20 [l0, l1, l2] st σ r else Ev L xs ρ 66 16 [l0, l1, l2] st σ r := ev_ifge cm_66 dX5_slip_13 (by decide)
theorem x66_16 : Ev L xs ρ 66 16 [l0, l1, l2] st σ r ↔ Ev L xs ρ 66 17 [l0, l1, l2] (.int (0) :: st) σ r := ev_iconst cm_66 dX5_slip_16 (by decide)
theorem x66_17 : Ev L xs ρ 66 17 [l0, l1, l2] st σ r ↔ Ev L xs ρ 66 39 [l0, l1, l2] st σ r := ev_goto cm_66 dX5_slip_17 (by decide)
theorem x66_20 : Ev L xs ρ 66 20 [some (.ref a), l1, l2] st σ r ↔ Ev L xs ρ 66 21 [some (.ref a), l1, l2] (.ref a :: st) σ r := ev_aload_n cm_66 dX5_slip_20 rfl rfl
theorem x66_21 : Ev L xs ρ 66 21 [l0, some (.int x), l2] st σ r ↔ Ev L xs ρ 66 22 [l0, some (.int x), l2] (.int x :: st) σ r := ev_iload_n cm_66 dX5_slip_21 rfl rfl
theorem x66_22 : Ev L xs 2 66 22 [l0, l1, l2] (.int x :: .ref a :: []) (n, I, Lm, Rm) r ↔ (a < n ∧ shp a = (0, 5)) ∧ ∃ v n2 I2 L2 R2, Em L xs 64 [.ref a, .int x] (n, I, Lm, Rm) (v, n2, I2, L2, R2) ∧ Ev L xs 2 66 25 [l0, l1, l2] (v.toList ++ []) (n2, I2, L2, R2) r := ev_cV cm_66 [.int x] dX5_slip_22 rfl rfl rfl rfl (Nat.le_of_ble_eq_true rfl) (rka_lt rfl (by decide)) (Nat.le_of_ble_eq_true rfl)
theorem x66_25 : Ev L xs ρ 66 25 [some (.ref a), l1, l2] st σ r ↔ Ev L xs ρ 66 26 [some (.ref a), l1, l2] (.ref a :: st) σ r := ev_aload_n cm_66 dX5_slip_25 rfl rfl
theorem x66_26 : Ev L xs ρ 66 26 [l0, l1, l2] (.ref a :: st) (n, I, Lm, Rm) r ↔ (a < n ∧ shp a = (0, 5)) ∧ Ev L xs ρ 66 29 [l0, l1, l2] (rfv (Rm a 0) :: st) (n, I, Lm, Rm) r := ev_gtR cm_66 dX5_slip_26 rfl rfl
theorem x66_29 : Ev L xs ρ 66 29 [l0, l1, l2] (.ref a :: st) (n, I, Lm, Rm) r ↔ (a < n ∧ shp a = (0, 1)) ∧ Ev L xs ρ 66 32 [l0, l1, l2] (rfv (Rm a 1) :: st) (n, I, Lm, Rm) r := ev_gtR cm_66 dX5_slip_29 rfl rfl
theorem x66_32 : Ev L xs ρ 66 32 [l0, l1, some (.int x)] st σ r ↔ Ev L xs ρ 66 33 [l0, l1, some (.int x)] (.int x :: st) σ r := ev_iload_n cm_66 dX5_slip_32 rfl rfl
theorem x66_33 : Ev L xs 2 66 33 [l0, l1, l2] (.int y :: .ref a :: .int x :: []) σ r ↔ ∃ v n2 I2 L2 R2, Em L xs 160 [.ref a, .int y] σ (v, n2, I2, L2, R2) ∧ Ev L xs 2 66 36 [l0, l1, l2] (v.toList ++ (.int x :: [])) (n2, I2, L2, R2) r := ev_cS cm_66 [.ref a, .int y] dX5_slip_33 rfl rfl rfl (Nat.le_of_ble_eq_true rfl) (rka_lt rfl (by decide)) (Nat.le_of_ble_eq_true rfl)
theorem x66_36 : Ev L xs 2 66 36 [l0, l1, l2] (.int y :: .int x :: []) σ r ↔ ∃ v n2 I2 L2 R2, Em L xs 163 [.int x, .int y] σ (v, n2, I2, L2, R2) ∧ Ev L xs 2 66 39 [l0, l1, l2] (v.toList ++ []) (n2, I2, L2, R2) r := ev_cS cm_66 [.int x, .int y] dX5_slip_36 rfl rfl rfl (Nat.le_of_ble_eq_true rfl) (rka_lt rfl (by decide)) (Nat.le_of_ble_eq_true rfl)
theorem x66_39 : Ev L xs ρ 66 39 [l0, l1, l2] [.int x] σ r ↔ r = (some (.int x), σ) := ev_reti cm_66 dX5_slip_39 rfl
theorem cm_67 : mcd 67 = cX5_sumIn := rfl
theorem em_67 : Em L xs 67 [.ref a, .int x] σ r ↔ Ev L xs 3 67 0 [some (.ref a), some (.int x), none, none] [] σ r := Iff.rfl
theorem x67_0 : Ev L xs ρ 67 0 [l0, l1, l2, l3] st σ r ↔ Ev L xs ρ 67 1 [l0, l1, l2, l3] (.int (0) :: st) σ r := ev_iconst cm_67 dX5_sumIn_0 (by decide)
theorem x67_1 : Ev L xs ρ 67 1 [l0, l1, l2, l3] (.int x :: st) σ r ↔ Ev L xs ρ 67 2 [l0, l1, some (.int x), l3] st σ r := ev_istore_n cm_67 dX5_sumIn_1 rfl (Nat.le_of_ble_eq_true rfl)
theorem x67_2 : Ev L xs ρ 67 2 [l0, l1, l2, l3] st σ r ↔ Ev L xs ρ 67 3 [l0, l1, l2, l3] (.int (0) :: st) σ r := ev_iconst cm_67 dX5_sumIn_2 (by decide)
theorem x67_3 : Ev L xs ρ 67 3 [l0, l1, l2, l3] (.int x :: st) σ r ↔ Ev L xs ρ 67 4 [l0, l1, l2, some (.int x)] st σ r := ev_istore_n cm_67 dX5_sumIn_3 rfl (Nat.le_of_ble_eq_true rfl)
theorem x67_4 : Ev L xs ρ 67 4 [l0, l1, l2, some (.int x)] st σ r ↔ Ev L xs ρ 67 5 [l0, l1, l2, some (.int x)] (.int x :: st) σ r := ev_iload_n cm_67 dX5_sumIn_4 rfl rfl
theorem x67_5 : Ev L xs ρ 67 5 [some (.ref a), l1, l2, l3] st σ r ↔ Ev L xs ρ 67 6 [some (.ref a), l1, l2, l3] (.ref a :: st) σ r := ev_aload_n cm_67 dX5_sumIn_5 rfl rfl
theorem x67_6 : Ev L xs ρ 67 6 [l0, l1, l2, l3] (.ref a :: st) (n, I, Lm, Rm) r ↔ (a < n ∧ shp a = (0, 5)) ∧ Ev L xs ρ 67 9 [l0, l1, l2, l3] (rfv (Rm a 1) :: st) (n, I, Lm, Rm) r := ev_gtR cm_67 dX5_sumIn_6 rfl rfl
theorem x67_9 : Ev L xs ρ 67 9 [l0, l1, l2, l3] (.ref a :: st) (n, I, Lm, Rm) r ↔ (a < n ∧ shp a = (0, 2)) ∧ Ev L xs ρ 67 12 [l0, l1, l2, l3] (.int (I a 8) :: st) (n, I, Lm, Rm) r := ev_gtI cm_67 dX5_sumIn_9 rfl rfl
theorem x67_12 : Ev L xs ρ 67 12 [l0, l1, l2, l3] (.int y :: .int x :: st) σ r ↔ if y ≤ x then Ev L xs ρ 67 44 [l0, l1, l2, l3] st σ r else Ev L xs ρ 67 15 [l0, l1, l2, l3] st σ r := ev_icge cm_67 dX5_sumIn_12 (by decide)
theorem x67_15 : Ev L xs ρ 67 15 [some (.ref a), l1, l2, l3] st σ r ↔ Ev L xs ρ 67 16 [some (.ref a), l1, l2, l3] (.ref a :: st) σ r := ev_aload_n cm_67 dX5_sumIn_15 rfl rfl
theorem x67_16 : Ev L xs ρ 67 16 [l0, l1, l2, l3] (.ref a :: st) (n, I, Lm, Rm) r ↔ (a < n ∧ shp a = (0, 5)) ∧ Ev L xs ρ 67 19 [l0, l1, l2, l3] (rfv (Rm a 1) :: st) (n, I, Lm, Rm) r := ev_gtR cm_67 dX5_sumIn_16 rfl rfl
theorem x67_19 : Ev L xs ρ 67 19 [l0, l1, l2, l3] (.ref a :: st) (n, I, Lm, Rm) r ↔ (a < n ∧ shp a = (0, 2)) ∧ Ev L xs ρ 67 22 [l0, l1, l2, l3] (rfv (Rm a 2) :: st) (n, I, Lm, Rm) r := ev_gtR cm_67 dX5_sumIn_19 rfl rfl
theorem x67_22 : Ev L xs ρ 67 22 [l0, l1, l2, some (.int x)] st σ r ↔ Ev L xs ρ 67 23 [l0, l1, l2, some (.int x)] (.int x :: st) σ r := ev_iload_n cm_67 dX5_sumIn_22 rfl rfl
theorem x67_23 : Ev L xs 3 67 23 [l0, l1, l2, l3] (.int x :: .ref a :: []) σ r ↔ ∃ v n2 I2 L2 R2, Em L xs 160 [.ref a, .int x] σ (v, n2, I2, L2, R2) ∧ Ev L xs 3 67 26 [l0, l1, l2, l3] (v.toList ++ []) (n2, I2, L2, R2) r := ev_cS cm_67 [.ref a, .int x] dX5_sumIn_23 rfl rfl rfl (Nat.le_of_ble_eq_true rfl) (rka_lt rfl (by decide)) (Nat.le_of_ble_eq_true rfl)
theorem x67_26 : Ev L xs ρ 67 26 [l0, some (.int x), l2, l3] st σ r ↔ Ev L xs ρ 67 27 [l0, some (.int x), l2, l3] (.int x :: st) σ r := ev_iload_n cm_67 dX5_sumIn_26 rfl rfl
theorem x67_27 : Ev L xs ρ 67 27 [l0, l1, l2, l3] (.int y :: .int x :: st) σ r ↔ if x = y then Ev L xs ρ 67 30 [l0, l1, l2, l3] st σ r else Ev L xs ρ 67 38 [l0, l1, l2, l3] st σ r := ev_icne cm_67 dX5_sumIn_27 (by decide)
theorem x67_30 : Ev L xs ρ 67 30 [l0, l1, some (.int x), l3] st σ r ↔ Ev L xs ρ 67 31 [l0, l1, some (.int x), l3] (.int x :: st) σ r := ev_iload_n cm_67 dX5_sumIn_30 rfl rfl
theorem x67_31 : Ev L xs ρ 67 31 [some (.ref a), l1, l2, l3] st σ r ↔ Ev L xs ρ 67 32 [some (.ref a), l1, l2, l3] (.ref a :: st) σ r := ev_aload_n cm_67 dX5_sumIn_31 rfl rfl
theorem x67_32 : Ev L xs ρ 67 32 [l0, l1, l2, some (.int x)] st σ r ↔ Ev L xs ρ 67 33 [l0, l1, l2, some (.int x)] (.int x :: st) σ r := ev_iload_n cm_67 dX5_sumIn_32 rfl rfl
theorem x67_33 : Ev L xs 3 67 33 [l0, l1, l2, l3] (.int y :: .ref a :: .int x :: []) (n, I, Lm, Rm) r ↔ (a < n ∧ shp a = (0, 5)) ∧ ∃ v n2 I2 L2 R2, Em L xs 66 [.ref a, .int y] (n, I, Lm, Rm) (v, n2, I2, L2, R2) ∧ Ev L xs 3 67 36 [l0, l1, l2, l3] (v.toList ++ (.int x :: [])) (n2, I2, L2, R2) r := ev_cV cm_67 [.int y] dX5_sumIn_33 rfl rfl rfl rfl (Nat.le_of_ble_eq_true rfl) (rka_lt rfl (by decide)) (Nat.le_of_ble_eq_true rfl)
theorem x67_36 : Ev L xs ρ 67 36 [l0, l1, l2, l3] (.int y :: .int x :: st) σ r ↔ Ev L xs ρ 67 37 [l0, l1, l2, l3] (.int (x + y) :: st) σ r := ev_nx (ev_ex cm_67 dX5_sumIn_36 rfl rfl)
theorem x67_37 : Ev L xs ρ 67 37 [l0, l1, l2, l3] (.int x :: st) σ r ↔ Ev L xs ρ 67 38 [l0, l1, some (.int x), l3] st σ r := ev_istore_n cm_67 dX5_sumIn_37 rfl (Nat.le_of_ble_eq_true rfl)
theorem x67_38 : Ev L xs ρ 67 38 [l0, l1, l2, some (.int x)] st σ r ↔ Ev L xs ρ 67 41 [l0, l1, l2, some (.int (x + (1)))] st σ r := ev_iinc cm_67 dX5_sumIn_38 rfl (by decide)
theorem x67_41 : Ev L xs ρ 67 41 [l0, l1, l2, l3] st σ r ↔ Ev L xs ρ 67 4 [l0, l1, l2, l3] st σ r := ev_goto cm_67 dX5_sumIn_41 (by decide)
theorem x67_44 : Ev L xs ρ 67 44 [l0, l1, some (.int x), l3] st σ r ↔ Ev L xs ρ 67 45 [l0, l1, some (.int x), l3] (.int x :: st) σ r := ev_iload_n cm_67 dX5_sumIn_44 rfl rfl
theorem x67_45 : Ev L xs ρ 67 45 [l0, l1, l2, l3] [.int x] σ r ↔ r = (some (.int x), σ) := ev_reti cm_67 dX5_sumIn_45 rfl
theorem cm_68 : mcd 68 = cX5_needsIn := rfl
theorem em_68 : Em L xs 68 [.ref a, .int x] σ r ↔ Ev L xs 2 68 0 [some (.ref a), some (.int x), none, none] [] σ r := Iff.rfl
theorem x68_0 : Ev L xs ρ 68 0 [l0, l1, l2, l3] st σ r ↔ Ev L xs ρ 68 1 [l0, l1, l2, l3] (.int (0) :: st) σ r := ev_iconst cm_68 dX5_needsIn_0 (by decide)
theorem x68_1 : Ev L xs ρ 68 1 [l0, l1, l2, l3] (.int x :: st) σ r ↔ Ev L xs ρ 68 2 [l0, l1, some (.int x), l3] st σ r := ev_istore_n cm_68 dX5_needsIn_1 rfl (Nat.le_of_ble_eq_true rfl)
theorem x68_2 : Ev L xs ρ 68 2 [l0, l1, l2, l3] st σ r ↔ Ev L xs ρ 68 3 [l0, l1, l2, l3] (.int (0) :: st) σ r := ev_iconst cm_68 dX5_needsIn_2 (by decide)
theorem x68_3 : Ev L xs ρ 68 3 [l0, l1, l2, l3] (.int x :: st) σ r ↔ Ev L xs ρ 68 4 [l0, l1, l2, some (.int x)] st σ r := ev_istore_n cm_68 dX5_needsIn_3 rfl (Nat.le_of_ble_eq_true rfl)
theorem x68_4 : Ev L xs ρ 68 4 [l0, l1, l2, some (.int x)] st σ r ↔ Ev L xs ρ 68 5 [l0, l1, l2, some (.int x)] (.int x :: st) σ r := ev_iload_n cm_68 dX5_needsIn_4 rfl rfl
theorem x68_5 : Ev L xs ρ 68 5 [some (.ref a), l1, l2, l3] st σ r ↔ Ev L xs ρ 68 6 [some (.ref a), l1, l2, l3] (.ref a :: st) σ r := ev_aload_n cm_68 dX5_needsIn_5 rfl rfl
theorem x68_6 : Ev L xs ρ 68 6 [l0, l1, l2, l3] (.ref a :: st) (n, I, Lm, Rm) r ↔ (a < n ∧ shp a = (0, 5)) ∧ Ev L xs ρ 68 9 [l0, l1, l2, l3] (rfv (Rm a 1) :: st) (n, I, Lm, Rm) r := ev_gtR cm_68 dX5_needsIn_6 rfl rfl
theorem x68_9 : Ev L xs ρ 68 9 [l0, l1, l2, l3] (.ref a :: st) (n, I, Lm, Rm) r ↔ (a < n ∧ shp a = (0, 2)) ∧ Ev L xs ρ 68 12 [l0, l1, l2, l3] (.int (I a 8) :: st) (n, I, Lm, Rm) r := ev_gtI cm_68 dX5_needsIn_9 rfl rfl
theorem x68_12 : Ev L xs ρ 68 12 [l0, l1, l2, l3] (.int y :: .int x :: st) σ r ↔ if y ≤ x then Ev L xs ρ 68 44 [l0, l1, l2, l3] st σ r else Ev L xs ρ 68 15 [l0, l1, l2, l3] st σ r := ev_icge cm_68 dX5_needsIn_12 (by decide)
theorem x68_15 : Ev L xs ρ 68 15 [some (.ref a), l1, l2, l3] st σ r ↔ Ev L xs ρ 68 16 [some (.ref a), l1, l2, l3] (.ref a :: st) σ r := ev_aload_n cm_68 dX5_needsIn_15 rfl rfl
theorem x68_16 : Ev L xs ρ 68 16 [l0, l1, l2, l3] (.ref a :: st) (n, I, Lm, Rm) r ↔ (a < n ∧ shp a = (0, 5)) ∧ Ev L xs ρ 68 19 [l0, l1, l2, l3] (rfv (Rm a 1) :: st) (n, I, Lm, Rm) r := ev_gtR cm_68 dX5_needsIn_16 rfl rfl
theorem x68_19 : Ev L xs ρ 68 19 [l0, l1, l2, l3] (.ref a :: st) (n, I, Lm, Rm) r ↔ (a < n ∧ shp a = (0, 2)) ∧ Ev L xs ρ 68 22 [l0, l1, l2, l3] (rfv (Rm a 2) :: st) (n, I, Lm, Rm) r := ev_gtR cm_68 dX5_needsIn_19 rfl rfl
theorem x68_22 : Ev L xs ρ 68 22 [l0, l1, l2, some (.int x)] st σ r ↔ Ev L xs ρ 68 23 [l0, l1, l2, some (.int x)] (.int x :: st) σ r := ev_iload_n cm_68 dX5_needsIn_22 rfl rfl
theorem x68_23 : Ev L xs 2 68 23 [l0, l1, l2, l3] (.int x :: .ref a :: []) σ r ↔ ∃ v n2 I2 L2 R2, Em L xs 160 [.ref a, .int x] σ (v, n2, I2, L2, R2) ∧ Ev L xs 2 68 26 [l0, l1, l2, l3] (v.toList ++ []) (n2, I2, L2, R2) r := ev_cS cm_68 [.ref a, .int x] dX5_needsIn_23 rfl rfl rfl (Nat.le_of_ble_eq_true rfl) (rka_lt rfl (by decide)) (Nat.le_of_ble_eq_true rfl)
theorem x68_26 : Ev L xs ρ 68 26 [l0, some (.int x), l2, l3] st σ r ↔ Ev L xs ρ 68 27 [l0, some (.int x), l2, l3] (.int x :: st) σ r := ev_iload_n cm_68 dX5_needsIn_26 rfl rfl
theorem x68_27 : Ev L xs ρ 68 27 [l0, l1, l2, l3] (.int y :: .int x :: st) σ r ↔ if x = y then Ev L xs ρ 68 30 [l0, l1, l2, l3] st σ r else Ev L xs ρ 68 38 [l0, l1, l2, l3] st σ r := ev_icne cm_68 dX5_needsIn_27 (by decide)
theorem x68_30 : Ev L xs ρ 68 30 [l0, l1, some (.int x), l3] st σ r ↔ Ev L xs ρ 68 31 [l0, l1, some (.int x), l3] (.int x :: st) σ r := ev_iload_n cm_68 dX5_needsIn_30 rfl rfl
theorem x68_31 : Ev L xs ρ 68 31 [some (.ref a), l1, l2, l3] st σ r ↔ Ev L xs ρ 68 32 [some (.ref a), l1, l2, l3] (.ref a :: st) σ r := ev_aload_n cm_68 dX5_needsIn_31 rfl rfl
theorem x68_32 : Ev L xs ρ 68 32 [l0, l1, l2, some (.int x)] st σ r ↔ Ev L xs ρ 68 33 [l0, l1, l2, some (.int x)] (.int x :: st) σ r := ev_iload_n cm_68 dX5_needsIn_32 rfl rfl
theorem x68_33 : Ev L xs 2 68 33 [l0, l1, l2, l3] (.int y :: .ref a :: .int x :: []) (n, I, Lm, Rm) r ↔ (a < n ∧ shp a = (0, 5)) ∧ ∃ v n2 I2 L2 R2, Em L xs 65 [.ref a, .int y] (n, I, Lm, Rm) (v, n2, I2, L2, R2) ∧ Ev L xs 2 68 36 [l0, l1, l2, l3] (v.toList ++ (.int x :: [])) (n2, I2, L2, R2) r := ev_cV cm_68 [.int y] dX5_needsIn_33 rfl rfl rfl rfl (Nat.le_of_ble_eq_true rfl) (rka_lt rfl (by decide)) (Nat.le_of_ble_eq_true rfl)
theorem x68_36 : Ev L xs ρ 68 36 [l0, l1, l2, l3] (.int y :: .int x :: st) σ r ↔ Ev L xs ρ 68 37 [l0, l1, l2, l3] (.int (x + y) :: st) σ r := ev_nx (ev_ex cm_68 dX5_needsIn_36 rfl rfl)
theorem x68_37 : Ev L xs ρ 68 37 [l0, l1, l2, l3] (.int x :: st) σ r ↔ Ev L xs ρ 68 38 [l0, l1, some (.int x), l3] st σ r := ev_istore_n cm_68 dX5_needsIn_37 rfl (Nat.le_of_ble_eq_true rfl)
theorem x68_38 : Ev L xs ρ 68 38 [l0, l1, l2, some (.int x)] st σ r ↔ Ev L xs ρ 68 41 [l0, l1, l2, some (.int (x + (1)))] st σ r := ev_iinc cm_68 dX5_needsIn_38 rfl (by decide)
theorem x68_41 : Ev L xs ρ 68 41 [l0, l1, l2, l3] st σ r ↔ Ev L xs ρ 68 4 [l0, l1, l2, l3] st σ r := ev_goto cm_68 dX5_needsIn_41 (by decide)
theorem x68_44 : Ev L xs ρ 68 44 [l0, l1, some (.int x), l3] st σ r ↔ Ev L xs ρ 68 45 [l0, l1, some (.int x), l3] (.int x :: st) σ r := ev_iload_n cm_68 dX5_needsIn_44 rfl rfl
theorem x68_45 : Ev L xs ρ 68 45 [l0, l1, l2, l3] [.int x] σ r ↔ r = (some (.int x), σ) := ev_reti cm_68 dX5_needsIn_45 rfl
theorem cm_69 : mcd 69 = cX5_meanIn := rfl
theorem em_69 : Em L xs 69 [.ref a, .int x] σ r ↔ Ev L xs 4 69 0 [some (.ref a), some (.int x), none] [] σ r := Iff.rfl
theorem x69_0 : Ev L xs ρ 69 0 [some (.ref a), l1, l2] st σ r ↔ Ev L xs ρ 69 1 [some (.ref a), l1, l2] (.ref a :: st) σ r := ev_aload_n cm_69 dX5_meanIn_0 rfl rfl
theorem x69_1 : Ev L xs ρ 69 1 [l0, l1, l2] (.ref a :: st) (n, I, Lm, Rm) r ↔ (a < n ∧ shp a = (0, 5)) ∧ Ev L xs ρ 69 4 [l0, l1, l2] (rfv (Rm a 1) :: st) (n, I, Lm, Rm) r := ev_gtR cm_69 dX5_meanIn_1 rfl rfl
theorem x69_4 : Ev L xs ρ 69 4 [l0, some (.int x), l2] st σ r ↔ Ev L xs ρ 69 5 [l0, some (.int x), l2] (.int x :: st) σ r := ev_iload_n cm_69 dX5_meanIn_4 rfl rfl
theorem x69_5 : Ev L xs 4 69 5 [l0, l1, l2] (.int x :: .ref a :: []) (n, I, Lm, Rm) r ↔ (a < n ∧ shp a = (0, 2)) ∧ ∃ v n2 I2 L2 R2, Em L xs 10 [.ref a, .int x] (n, I, Lm, Rm) (v, n2, I2, L2, R2) ∧ Ev L xs 4 69 8 [l0, l1, l2] (v.toList ++ []) (n2, I2, L2, R2) r := ev_cV cm_69 [.int x] dX5_meanIn_5 rfl rfl rfl rfl (Nat.le_of_ble_eq_true rfl) (rka_lt rfl (by decide)) (Nat.le_of_ble_eq_true rfl)
theorem x69_8 : Ev L xs ρ 69 8 [l0, l1, l2] (.int x :: st) σ r ↔ Ev L xs ρ 69 9 [l0, l1, some (.int x)] st σ r := ev_istore_n cm_69 dX5_meanIn_8 rfl (Nat.le_of_ble_eq_true rfl)
theorem x69_9 : Ev L xs ρ 69 9 [l0, l1, some (.int x)] st σ r ↔ Ev L xs ρ 69 10 [l0, l1, some (.int x)] (.int x :: st) σ r := ev_iload_n cm_69 dX5_meanIn_9 rfl rfl
theorem x69_10 : Ev L xs ρ 69 10 [l0, l1, l2] (.int x :: st) σ r ↔ if x ≤ 0 then Ev L xs ρ 69 26 [l0, l1, l2] st σ r else Ev L xs ρ 69 13 [l0, l1, l2] st σ r := ev_ifle cm_69 dX5_meanIn_10 (by decide)
theorem x69_13 : Ev L xs ρ 69 13 [l0, l1, l2] st σ r ↔ Ev L xs ρ 69 15 [l0, l1, l2] (.int (100) :: st) σ r := ev_bipush cm_69 dX5_meanIn_13 (by decide)
theorem x69_15 : Ev L xs ρ 69 15 [some (.ref a), l1, l2] st σ r ↔ Ev L xs ρ 69 16 [some (.ref a), l1, l2] (.ref a :: st) σ r := ev_aload_n cm_69 dX5_meanIn_15 rfl rfl
theorem x69_16 : Ev L xs ρ 69 16 [l0, some (.int x), l2] st σ r ↔ Ev L xs ρ 69 17 [l0, some (.int x), l2] (.int x :: st) σ r := ev_iload_n cm_69 dX5_meanIn_16 rfl rfl
theorem x69_17 : Ev L xs 4 69 17 [l0, l1, l2] (.int y :: .ref a :: .int x :: []) (n, I, Lm, Rm) r ↔ (a < n ∧ shp a = (0, 5)) ∧ ∃ v n2 I2 L2 R2, Em L xs 67 [.ref a, .int y] (n, I, Lm, Rm) (v, n2, I2, L2, R2) ∧ Ev L xs 4 69 20 [l0, l1, l2] (v.toList ++ (.int x :: [])) (n2, I2, L2, R2) r := ev_cV cm_69 [.int y] dX5_meanIn_17 rfl rfl rfl rfl (Nat.le_of_ble_eq_true rfl) (rka_lt rfl (by decide)) (Nat.le_of_ble_eq_true rfl)
theorem x69_20 : Ev L xs ρ 69 20 [l0, l1, l2] (.int y :: .int x :: st) σ r ↔ Ev L xs ρ 69 21 [l0, l1, l2] (.int (x * y) :: st) σ r := ev_nx (ev_ex cm_69 dX5_meanIn_20 rfl rfl)
theorem x69_21 : Ev L xs ρ 69 21 [l0, l1, some (.int x)] st σ r ↔ Ev L xs ρ 69 22 [l0, l1, some (.int x)] (.int x :: st) σ r := ev_iload_n cm_69 dX5_meanIn_21 rfl rfl
theorem x69_22 : Ev L xs ρ 69 22 [l0, l1, l2] (.int y :: .int x :: st) σ r ↔ ¬ y = 0 ∧ Ev L xs ρ 69 23 [l0, l1, l2] (.int (x / y) :: st) σ r := ev_gn (ev_ex cm_69 dX5_meanIn_22 rfl rfl)
theorem x69_23 : Ev L xs ρ 69 23 [l0, l1, l2] st σ r ↔ Ev L xs ρ 69 27 [l0, l1, l2] st σ r := ev_goto cm_69 dX5_meanIn_23 (by decide)
theorem x69_26 : Ev L xs ρ 69 26 [l0, l1, l2] st σ r ↔ Ev L xs ρ 69 27 [l0, l1, l2] (.int (0) :: st) σ r := ev_iconst cm_69 dX5_meanIn_26 (by decide)
theorem x69_27 : Ev L xs ρ 69 27 [l0, l1, l2] [.int x] σ r ↔ r = (some (.int x), σ) := ev_reti cm_69 dX5_meanIn_27 rfl
theorem cm_70 : mcd 70 = cX5_spreadIn := rfl
theorem em_70 : Em L xs 70 [.ref a, .int x] σ r ↔ Ev L xs 4 70 0 [some (.ref a), some (.int x), none, none] [] σ r := Iff.rfl
theorem x70_0 : Ev L xs ρ 70 0 [l0, l1, l2, l3] st σ r ↔ Ev L xs ρ 70 1 [l0, l1, l2, l3] (.int (0) :: st) σ r := ev_iconst cm_70 dX5_spreadIn_0 (by decide)
theorem x70_1 : Ev L xs ρ 70 1 [l0, l1, l2, l3] (.int x :: st) σ r ↔ Ev L xs ρ 70 2 [l0, l1, some (.int x), l3] st σ r := ev_istore_n cm_70 dX5_spreadIn_1 rfl (Nat.le_of_ble_eq_true rfl)
theorem x70_2 : Ev L xs ρ 70 2 [l0, l1, l2, l3] st σ r ↔ Ev L xs ρ 70 3 [l0, l1, l2, l3] (.int (0) :: st) σ r := ev_iconst cm_70 dX5_spreadIn_2 (by decide)
theorem x70_3 : Ev L xs ρ 70 3 [l0, l1, l2, l3] (.int x :: st) σ r ↔ Ev L xs ρ 70 4 [l0, l1, l2, some (.int x)] st σ r := ev_istore_n cm_70 dX5_spreadIn_3 rfl (Nat.le_of_ble_eq_true rfl)
theorem x70_4 : Ev L xs ρ 70 4 [l0, l1, l2, some (.int x)] st σ r ↔ Ev L xs ρ 70 5 [l0, l1, l2, some (.int x)] (.int x :: st) σ r := ev_iload_n cm_70 dX5_spreadIn_4 rfl rfl
theorem x70_5 : Ev L xs ρ 70 5 [some (.ref a), l1, l2, l3] st σ r ↔ Ev L xs ρ 70 6 [some (.ref a), l1, l2, l3] (.ref a :: st) σ r := ev_aload_n cm_70 dX5_spreadIn_5 rfl rfl
theorem x70_6 : Ev L xs ρ 70 6 [l0, l1, l2, l3] (.ref a :: st) (n, I, Lm, Rm) r ↔ (a < n ∧ shp a = (0, 5)) ∧ Ev L xs ρ 70 9 [l0, l1, l2, l3] (rfv (Rm a 1) :: st) (n, I, Lm, Rm) r := ev_gtR cm_70 dX5_spreadIn_6 rfl rfl
theorem x70_9 : Ev L xs ρ 70 9 [l0, l1, l2, l3] (.ref a :: st) (n, I, Lm, Rm) r ↔ (a < n ∧ shp a = (0, 2)) ∧ Ev L xs ρ 70 12 [l0, l1, l2, l3] (.int (I a 8) :: st) (n, I, Lm, Rm) r := ev_gtI cm_70 dX5_spreadIn_9 rfl rfl
theorem x70_12 : Ev L xs ρ 70 12 [l0, l1, l2, l3] (.int y :: .int x :: st) σ r ↔ if y ≤ x then Ev L xs ρ 70 55 [l0, l1, l2, l3] st σ r else Ev L xs ρ 70 15 [l0, l1, l2, l3] st σ r := ev_icge cm_70 dX5_spreadIn_12 (by decide)
theorem x70_15 : Ev L xs ρ 70 15 [some (.ref a), l1, l2, l3] st σ r ↔ Ev L xs ρ 70 16 [some (.ref a), l1, l2, l3] (.ref a :: st) σ r := ev_aload_n cm_70 dX5_spreadIn_15 rfl rfl
theorem x70_16 : Ev L xs ρ 70 16 [l0, l1, l2, l3] (.ref a :: st) (n, I, Lm, Rm) r ↔ (a < n ∧ shp a = (0, 5)) ∧ Ev L xs ρ 70 19 [l0, l1, l2, l3] (rfv (Rm a 1) :: st) (n, I, Lm, Rm) r := ev_gtR cm_70 dX5_spreadIn_16 rfl rfl
theorem x70_19 : Ev L xs ρ 70 19 [l0, l1, l2, l3] (.ref a :: st) (n, I, Lm, Rm) r ↔ (a < n ∧ shp a = (0, 2)) ∧ Ev L xs ρ 70 22 [l0, l1, l2, l3] (rfv (Rm a 2) :: st) (n, I, Lm, Rm) r := ev_gtR cm_70 dX5_spreadIn_19 rfl rfl
theorem x70_22 : Ev L xs ρ 70 22 [l0, l1, l2, some (.int x)] st σ r ↔ Ev L xs ρ 70 23 [l0, l1, l2, some (.int x)] (.int x :: st) σ r := ev_iload_n cm_70 dX5_spreadIn_22 rfl rfl
theorem x70_23 : Ev L xs 4 70 23 [l0, l1, l2, l3] (.int x :: .ref a :: []) σ r ↔ ∃ v n2 I2 L2 R2, Em L xs 160 [.ref a, .int x] σ (v, n2, I2, L2, R2) ∧ Ev L xs 4 70 26 [l0, l1, l2, l3] (v.toList ++ []) (n2, I2, L2, R2) r := ev_cS cm_70 [.ref a, .int x] dX5_spreadIn_23 rfl rfl rfl (Nat.le_of_ble_eq_true rfl) (rka_lt rfl (by decide)) (Nat.le_of_ble_eq_true rfl)
theorem x70_26 : Ev L xs ρ 70 26 [l0, some (.int x), l2, l3] st σ r ↔ Ev L xs ρ 70 27 [l0, some (.int x), l2, l3] (.int x :: st) σ r := ev_iload_n cm_70 dX5_spreadIn_26 rfl rfl
theorem x70_27 : Ev L xs ρ 70 27 [l0, l1, l2, l3] (.int y :: .int x :: st) σ r ↔ if x = y then Ev L xs ρ 70 30 [l0, l1, l2, l3] st σ r else Ev L xs ρ 70 49 [l0, l1, l2, l3] st σ r := ev_icne cm_70 dX5_spreadIn_27 (by decide)
theorem x70_30 : Ev L xs ρ 70 30 [some (.ref a), l1, l2, l3] st σ r ↔ Ev L xs ρ 70 31 [some (.ref a), l1, l2, l3] (.ref a :: st) σ r := ev_aload_n cm_70 dX5_spreadIn_30 rfl rfl
theorem x70_31 : Ev L xs ρ 70 31 [l0, l1, l2, l3] (.ref a :: st) (n, I, Lm, Rm) r ↔ (a < n ∧ shp a = (0, 5)) ∧ Ev L xs ρ 70 34 [l0, l1, l2, l3] (rfv (Rm a 2) :: st) (n, I, Lm, Rm) r := ev_gtR cm_70 dX5_spreadIn_31 rfl rfl
theorem x70_34 : Ev L xs ρ 70 34 [l0, l1, l2, l3] (.ref a :: st) (n, I, Lm, Rm) r ↔ (a < n ∧ shp a = (0, 0)) ∧ Ev L xs ρ 70 37 [l0, l1, l2, l3] (rfv (Rm a 0) :: st) (n, I, Lm, Rm) r := ev_gtR cm_70 dX5_spreadIn_34 rfl rfl
theorem x70_37 : Ev L xs ρ 70 37 [l0, l1, some (.int x), l3] st σ r ↔ Ev L xs ρ 70 38 [l0, l1, some (.int x), l3] (.int x :: st) σ r := ev_iload_n cm_70 dX5_spreadIn_37 rfl rfl
theorem x70_38 : Ev L xs ρ 70 38 [some (.ref a), l1, l2, l3] st σ r ↔ Ev L xs ρ 70 39 [some (.ref a), l1, l2, l3] (.ref a :: st) σ r := ev_aload_n cm_70 dX5_spreadIn_38 rfl rfl
theorem x70_39 : Ev L xs ρ 70 39 [l0, l1, l2, some (.int x)] st σ r ↔ Ev L xs ρ 70 40 [l0, l1, l2, some (.int x)] (.int x :: st) σ r := ev_iload_n cm_70 dX5_spreadIn_39 rfl rfl
theorem x70_40 : Ev L xs 4 70 40 [l0, l1, l2, l3] (.int y :: .ref b :: .int x :: .ref a :: []) (n, I, Lm, Rm) r ↔ (b < n ∧ shp b = (0, 5)) ∧ ∃ v n2 I2 L2 R2, Em L xs 66 [.ref b, .int y] (n, I, Lm, Rm) (v, n2, I2, L2, R2) ∧ Ev L xs 4 70 43 [l0, l1, l2, l3] (v.toList ++ (.int x :: .ref a :: [])) (n2, I2, L2, R2) r := ev_cV cm_70 [.int y] dX5_spreadIn_40 rfl rfl rfl rfl (Nat.le_of_ble_eq_true rfl) (rka_lt rfl (by decide)) (Nat.le_of_ble_eq_true rfl)
theorem x70_43 : Ev L xs 4 70 43 [l0, l1, l2, l3] (.int y :: .int x :: .ref a :: []) σ r ↔ ∃ v n2 I2 L2 R2, Em L xs 161 [.ref a, .int x, .int y] σ (v, n2, I2, L2, R2) ∧ Ev L xs 4 70 46 [l0, l1, l2, l3] (v.toList ++ []) (n2, I2, L2, R2) r := ev_cS cm_70 [.ref a, .int x, .int y] dX5_spreadIn_43 rfl rfl rfl (Nat.le_of_ble_eq_true rfl) (rka_lt rfl (by decide)) (Nat.le_of_ble_eq_true rfl)
theorem x70_46 : Ev L xs ρ 70 46 [l0, l1, some (.int x), l3] st σ r ↔ Ev L xs ρ 70 49 [l0, l1, some (.int (x + (1))), l3] st σ r := ev_iinc cm_70 dX5_spreadIn_46 rfl (by decide)
theorem x70_49 : Ev L xs ρ 70 49 [l0, l1, l2, some (.int x)] st σ r ↔ Ev L xs ρ 70 52 [l0, l1, l2, some (.int (x + (1)))] st σ r := ev_iinc cm_70 dX5_spreadIn_49 rfl (by decide)
theorem x70_52 : Ev L xs ρ 70 52 [l0, l1, l2, l3] st σ r ↔ Ev L xs ρ 70 4 [l0, l1, l2, l3] st σ r := ev_goto cm_70 dX5_spreadIn_52 (by decide)
theorem x70_55 : Ev L xs ρ 70 55 [some (.ref a), l1, l2, l3] st σ r ↔ Ev L xs ρ 70 56 [some (.ref a), l1, l2, l3] (.ref a :: st) σ r := ev_aload_n cm_70 dX5_spreadIn_55 rfl rfl
theorem x70_56 : Ev L xs ρ 70 56 [l0, l1, l2, l3] (.ref a :: st) (n, I, Lm, Rm) r ↔ (a < n ∧ shp a = (0, 5)) ∧ Ev L xs ρ 70 59 [l0, l1, l2, l3] (rfv (Rm a 2) :: st) (n, I, Lm, Rm) r := ev_gtR cm_70 dX5_spreadIn_56 rfl rfl
theorem x70_59 : Ev L xs ρ 70 59 [l0, l1, l2, l3] (.ref a :: st) (n, I, Lm, Rm) r ↔ (a < n ∧ shp a = (0, 0)) ∧ Ev L xs ρ 70 62 [l0, l1, l2, l3] (rfv (Rm a 0) :: st) (n, I, Lm, Rm) r := ev_gtR cm_70 dX5_spreadIn_59 rfl rfl
theorem x70_62 : Ev L xs ρ 70 62 [l0, l1, some (.int x), l3] st σ r ↔ Ev L xs ρ 70 63 [l0, l1, some (.int x), l3] (.int x :: st) σ r := ev_iload_n cm_70 dX5_spreadIn_62 rfl rfl
theorem x70_63 : Ev L xs ρ 70 63 [some (.ref a), l1, l2, l3] st σ r ↔ Ev L xs ρ 70 64 [some (.ref a), l1, l2, l3] (.ref a :: st) σ r := ev_aload_n cm_70 dX5_spreadIn_63 rfl rfl
theorem x70_64 : Ev L xs ρ 70 64 [l0, some (.int x), l2, l3] st σ r ↔ Ev L xs ρ 70 65 [l0, some (.int x), l2, l3] (.int x :: st) σ r := ev_iload_n cm_70 dX5_spreadIn_64 rfl rfl
theorem x70_65 : Ev L xs 4 70 65 [l0, l1, l2, l3] (.int y :: .ref b :: .int x :: .ref a :: []) (n, I, Lm, Rm) r ↔ (b < n ∧ shp b = (0, 5)) ∧ ∃ v n2 I2 L2 R2, Em L xs 67 [.ref b, .int y] (n, I, Lm, Rm) (v, n2, I2, L2, R2) ∧ Ev L xs 4 70 68 [l0, l1, l2, l3] (v.toList ++ (.int x :: .ref a :: [])) (n2, I2, L2, R2) r := ev_cV cm_70 [.int y] dX5_spreadIn_65 rfl rfl rfl rfl (Nat.le_of_ble_eq_true rfl) (rka_lt rfl (by decide)) (Nat.le_of_ble_eq_true rfl)
theorem x70_68 : Ev L xs 4 70 68 [l0, l1, l2, l3] (.int y :: .int x :: .ref a :: []) σ r ↔ ∃ v n2 I2 L2 R2, Em L xs 164 [.ref a, .int x, .int y] σ (v, n2, I2, L2, R2) ∧ Ev L xs 4 70 71 [l0, l1, l2, l3] (v.toList ++ []) (n2, I2, L2, R2) r := ev_cS cm_70 [.ref a, .int x, .int y] dX5_spreadIn_68 rfl rfl rfl (Nat.le_of_ble_eq_true rfl) (rka_lt rfl (by decide)) (Nat.le_of_ble_eq_true rfl)
theorem x70_71 : Ev L xs ρ 70 71 [l0, l1, l2, l3] [.int x] σ r ↔ r = (some (.int x), σ) := ev_reti cm_70 dX5_spreadIn_71 rfl
theorem cm_71 : mcd 71 = cX5_worthIn := rfl
theorem em_71 : Em L xs 71 [.ref a, .int x, .int y, .int z] σ r ↔ Ev L xs 3 71 0 [some (.ref a), some (.int x), some (.int y), some (.int z)] [] σ r := Iff.rfl
theorem x71_0 : Ev L xs ρ 71 0 [some (.ref a), l1, l2, l3] st σ r ↔ Ev L xs ρ 71 1 [some (.ref a), l1, l2, l3] (.ref a :: st) σ r := ev_aload_n cm_71 dX5_worthIn_0 rfl rfl
theorem x71_1 : Ev L xs ρ 71 1 [l0, l1, l2, l3] (.ref a :: st) (n, I, Lm, Rm) r ↔ (a < n ∧ shp a = (0, 5)) ∧ Ev L xs ρ 71 4 [l0, l1, l2, l3] (rfv (Rm a 2) :: st) (n, I, Lm, Rm) r := ev_gtR cm_71 dX5_worthIn_1 rfl rfl
theorem x71_4 : Ev L xs ρ 71 4 [some (.ref a), l1, l2, l3] st σ r ↔ Ev L xs ρ 71 5 [some (.ref a), l1, l2, l3] (.ref a :: st) σ r := ev_aload_n cm_71 dX5_worthIn_4 rfl rfl
theorem x71_5 : Ev L xs ρ 71 5 [l0, some (.int x), l2, l3] st σ r ↔ Ev L xs ρ 71 6 [l0, some (.int x), l2, l3] (.int x :: st) σ r := ev_iload_n cm_71 dX5_worthIn_5 rfl rfl
theorem x71_6 : Ev L xs ρ 71 6 [l0, l1, l2, some (.int x)] st σ r ↔ Ev L xs ρ 71 7 [l0, l1, l2, some (.int x)] (.int x :: st) σ r := ev_iload_n cm_71 dX5_worthIn_6 rfl rfl
theorem x71_7 : Ev L xs 3 71 7 [l0, l1, l2, l3] (.int y :: .int x :: .ref b :: .ref a :: []) (n, I, Lm, Rm) r ↔ (a < n ∧ shp a = (0, 0)) ∧ ∃ v n2 I2 L2 R2, Em L xs 1 [.ref a, .ref b, .int x, .int y] (n, I, Lm, Rm) (v, n2, I2, L2, R2) ∧ Ev L xs 3 71 10 [l0, l1, l2, l3] (v.toList ++ []) (n2, I2, L2, R2) r := ev_cV cm_71 [.ref b, .int x, .int y] dX5_worthIn_7 rfl rfl rfl rfl (Nat.le_of_ble_eq_true rfl) (rka_lt rfl (by decide)) (Nat.le_of_ble_eq_true rfl)
theorem x71_10 : Ev L xs ρ 71 10 [some (.ref a), l1, l2, l3] st σ r ↔ Ev L xs ρ 71 11 [some (.ref a), l1, l2, l3] (.ref a :: st) σ r := ev_aload_n cm_71 dX5_worthIn_10 rfl rfl
theorem x71_11 : Ev L xs ρ 71 11 [l0, l1, l2, l3] (.ref a :: st) (n, I, Lm, Rm) r ↔ (a < n ∧ shp a = (0, 5)) ∧ Ev L xs ρ 71 14 [l0, l1, l2, l3] (rfv (Rm a 2) :: st) (n, I, Lm, Rm) r := ev_gtR cm_71 dX5_worthIn_11 rfl rfl
theorem x71_14 : Ev L xs ρ 71 14 [l0, l1, some (.int x), l3] st σ r ↔ Ev L xs ρ 71 15 [l0, l1, some (.int x), l3] (.int x :: st) σ r := ev_iload_n cm_71 dX5_worthIn_14 rfl rfl
theorem x71_15 : Ev L xs 3 71 15 [l0, l1, l2, l3] (.int x :: .ref a :: []) (n, I, Lm, Rm) r ↔ (a < n ∧ shp a = (0, 0)) ∧ ∃ v n2 I2 L2 R2, Em L xs 4 [.ref a, .int x] (n, I, Lm, Rm) (v, n2, I2, L2, R2) ∧ Ev L xs 3 71 18 [l0, l1, l2, l3] (v.toList ++ []) (n2, I2, L2, R2) r := ev_cV cm_71 [.int x] dX5_worthIn_15 rfl rfl rfl rfl (Nat.le_of_ble_eq_true rfl) (rka_lt rfl (by decide)) (Nat.le_of_ble_eq_true rfl)
theorem x71_18 : Ev L xs ρ 71 18 [l0, l1, l2, l3] [.int x] σ r ↔ r = (some (.int x), σ) := ev_reti cm_71 dX5_worthIn_18 rfl
theorem cm_72 : mcd 72 = cX5_worthNow := rfl
theorem em_72 : Em L xs 72 [.ref a, .int x] σ r ↔ Ev L xs 4 72 0 [some (.ref a), some (.int x)] [] σ r := Iff.rfl
theorem x72_0 : Ev L xs ρ 72 0 [some (.ref a), l1] st σ r ↔ Ev L xs ρ 72 1 [some (.ref a), l1] (.ref a :: st) σ r := ev_aload_n cm_72 dX5_worthNow_0 rfl rfl
theorem x72_1 : Ev L xs ρ 72 1 [l0, some (.int x)] st σ r ↔ Ev L xs ρ 72 2 [l0, some (.int x)] (.int x :: st) σ r := ev_iload_n cm_72 dX5_worthNow_1 rfl rfl
theorem x72_2 : Ev L xs ρ 72 2 [some (.ref a), l1] st σ r ↔ Ev L xs ρ 72 3 [some (.ref a), l1] (.ref a :: st) σ r := ev_aload_n cm_72 dX5_worthNow_2 rfl rfl
theorem x72_3 : Ev L xs ρ 72 3 [l0, l1] (.ref a :: st) (n, I, Lm, Rm) r ↔ (a < n ∧ shp a = (0, 5)) ∧ Ev L xs ρ 72 6 [l0, l1] (rfv (Rm a 1) :: st) (n, I, Lm, Rm) r := ev_gtR cm_72 dX5_worthNow_3 rfl rfl
theorem x72_6 : Ev L xs ρ 72 6 [l0, l1] (.ref a :: st) (n, I, Lm, Rm) r ↔ (a < n ∧ shp a = (0, 2)) ∧ Ev L xs ρ 72 9 [l0, l1] (rfv (Rm a 3) :: st) (n, I, Lm, Rm) r := ev_gtR cm_72 dX5_worthNow_6 rfl rfl
theorem x72_9 : Ev L xs ρ 72 9 [l0, some (.int x)] st σ r ↔ Ev L xs ρ 72 10 [l0, some (.int x)] (.int x :: st) σ r := ev_iload_n cm_72 dX5_worthNow_9 rfl rfl
theorem x72_10 : Ev L xs 4 72 10 [l0, l1] (.int y :: .ref b :: .int x :: .ref a :: []) σ r ↔ ∃ v n2 I2 L2 R2, Em L xs 160 [.ref b, .int y] σ (v, n2, I2, L2, R2) ∧ Ev L xs 4 72 13 [l0, l1] (v.toList ++ (.int x :: .ref a :: [])) (n2, I2, L2, R2) r := ev_cS cm_72 [.ref b, .int y] dX5_worthNow_10 rfl rfl rfl (Nat.le_of_ble_eq_true rfl) (rka_lt rfl (by decide)) (Nat.le_of_ble_eq_true rfl)
theorem x72_13 : Ev L xs ρ 72 13 [some (.ref a), l1] st σ r ↔ Ev L xs ρ 72 14 [some (.ref a), l1] (.ref a :: st) σ r := ev_aload_n cm_72 dX5_worthNow_13 rfl rfl
theorem x72_14 : Ev L xs ρ 72 14 [l0, l1] (.ref a :: st) (n, I, Lm, Rm) r ↔ (a < n ∧ shp a = (0, 5)) ∧ Ev L xs ρ 72 17 [l0, l1] (rfv (Rm a 1) :: st) (n, I, Lm, Rm) r := ev_gtR cm_72 dX5_worthNow_14 rfl rfl
theorem x72_17 : Ev L xs ρ 72 17 [l0, l1] (.ref a :: st) (n, I, Lm, Rm) r ↔ (a < n ∧ shp a = (0, 2)) ∧ Ev L xs ρ 72 20 [l0, l1] (rfv (Rm a 2) :: st) (n, I, Lm, Rm) r := ev_gtR cm_72 dX5_worthNow_17 rfl rfl
theorem x72_20 : Ev L xs ρ 72 20 [l0, some (.int x)] st σ r ↔ Ev L xs ρ 72 21 [l0, some (.int x)] (.int x :: st) σ r := ev_iload_n cm_72 dX5_worthNow_20 rfl rfl
theorem x72_21 : Ev L xs 4 72 21 [l0, l1] (.int z :: .ref b :: .int y :: .int x :: .ref a :: []) σ r ↔ ∃ v n2 I2 L2 R2, Em L xs 160 [.ref b, .int z] σ (v, n2, I2, L2, R2) ∧ Ev L xs 4 72 24 [l0, l1] (v.toList ++ (.int y :: .int x :: .ref a :: [])) (n2, I2, L2, R2) r := ev_cS cm_72 [.ref b, .int z] dX5_worthNow_21 rfl rfl rfl (Nat.le_of_ble_eq_true rfl) (rka_lt rfl (by decide)) (Nat.le_of_ble_eq_true rfl)
theorem x72_24 : Ev L xs 4 72 24 [l0, l1] (.int z :: .int y :: .int x :: .ref a :: []) (n, I, Lm, Rm) r ↔ (a < n ∧ shp a = (0, 5)) ∧ ∃ v n2 I2 L2 R2, Em L xs 71 [.ref a, .int x, .int y, .int z] (n, I, Lm, Rm) (v, n2, I2, L2, R2) ∧ Ev L xs 4 72 27 [l0, l1] (v.toList ++ []) (n2, I2, L2, R2) r := ev_cV cm_72 [.int x, .int y, .int z] dX5_worthNow_24 rfl rfl rfl rfl (Nat.le_of_ble_eq_true rfl) (rka_lt rfl (by decide)) (Nat.le_of_ble_eq_true rfl)
theorem x72_27 : Ev L xs ρ 72 27 [l0, l1] [.int x] σ r ↔ r = (some (.int x), σ) := ev_reti cm_72 dX5_worthNow_27 rfl
theorem cm_73 : mcd 73 = cX5_allWorths := rfl
theorem em_73 : Em L xs 73 [.ref a] σ r ↔ Ev L xs 5 73 0 [some (.ref a), none, none] [] σ r := Iff.rfl
theorem x73_0 : Ev L xs ρ 73 0 [l0, l1, l2] st σ r ↔ Ev L xs ρ 73 1 [l0, l1, l2] (.int (0) :: st) σ r := ev_iconst cm_73 dX5_allWorths_0 (by decide)
theorem x73_1 : Ev L xs ρ 73 1 [l0, l1, l2] (.int x :: st) σ r ↔ Ev L xs ρ 73 2 [l0, some (.int x), l2] st σ r := ev_istore_n cm_73 dX5_allWorths_1 rfl (Nat.le_of_ble_eq_true rfl)
theorem x73_2 : Ev L xs ρ 73 2 [l0, l1, l2] st σ r ↔ Ev L xs ρ 73 3 [l0, l1, l2] (.int (0) :: st) σ r := ev_iconst cm_73 dX5_allWorths_2 (by decide)
theorem x73_3 : Ev L xs ρ 73 3 [l0, l1, l2] (.int x :: st) σ r ↔ Ev L xs ρ 73 4 [l0, l1, some (.int x)] st σ r := ev_istore_n cm_73 dX5_allWorths_3 rfl (Nat.le_of_ble_eq_true rfl)
theorem x73_4 : Ev L xs ρ 73 4 [l0, l1, some (.int x)] st σ r ↔ Ev L xs ρ 73 5 [l0, l1, some (.int x)] (.int x :: st) σ r := ev_iload_n cm_73 dX5_allWorths_4 rfl rfl
theorem x73_5 : Ev L xs ρ 73 5 [some (.ref a), l1, l2] st σ r ↔ Ev L xs ρ 73 6 [some (.ref a), l1, l2] (.ref a :: st) σ r := ev_aload_n cm_73 dX5_allWorths_5 rfl rfl
theorem x73_6 : Ev L xs ρ 73 6 [l0, l1, l2] (.ref a :: st) (n, I, Lm, Rm) r ↔ (a < n ∧ shp a = (0, 5)) ∧ Ev L xs ρ 73 9 [l0, l1, l2] (rfv (Rm a 1) :: st) (n, I, Lm, Rm) r := ev_gtR cm_73 dX5_allWorths_6 rfl rfl
theorem x73_9 : Ev L xs ρ 73 9 [l0, l1, l2] (.ref a :: st) (n, I, Lm, Rm) r ↔ (a < n ∧ shp a = (0, 2)) ∧ Ev L xs ρ 73 12 [l0, l1, l2] (.int (I a 8) :: st) (n, I, Lm, Rm) r := ev_gtI cm_73 dX5_allWorths_9 rfl rfl
theorem x73_12 : Ev L xs ρ 73 12 [l0, l1, l2] (.int y :: .int x :: st) σ r ↔ if y ≤ x then Ev L xs ρ 73 29 [l0, l1, l2] st σ r else Ev L xs ρ 73 15 [l0, l1, l2] st σ r := ev_icge cm_73 dX5_allWorths_12 (by decide)
theorem x73_15 : Ev L xs ρ 73 15 [l0, some (.int x), l2] st σ r ↔ Ev L xs ρ 73 16 [l0, some (.int x), l2] (.int x :: st) σ r := ev_iload_n cm_73 dX5_allWorths_15 rfl rfl
theorem x73_16 : Ev L xs ρ 73 16 [some (.ref a), l1, l2] st σ r ↔ Ev L xs ρ 73 17 [some (.ref a), l1, l2] (.ref a :: st) σ r := ev_aload_n cm_73 dX5_allWorths_16 rfl rfl
theorem x73_17 : Ev L xs ρ 73 17 [l0, l1, some (.int x)] st σ r ↔ Ev L xs ρ 73 18 [l0, l1, some (.int x)] (.int x :: st) σ r := ev_iload_n cm_73 dX5_allWorths_17 rfl rfl
theorem x73_18 : Ev L xs 5 73 18 [l0, l1, l2] (.int y :: .ref a :: .int x :: []) (n, I, Lm, Rm) r ↔ (a < n ∧ shp a = (0, 5)) ∧ ∃ v n2 I2 L2 R2, Em L xs 72 [.ref a, .int y] (n, I, Lm, Rm) (v, n2, I2, L2, R2) ∧ Ev L xs 5 73 21 [l0, l1, l2] (v.toList ++ (.int x :: [])) (n2, I2, L2, R2) r := ev_cV cm_73 [.int y] dX5_allWorths_18 rfl rfl rfl rfl (Nat.le_of_ble_eq_true rfl) (rka_lt rfl (by decide)) (Nat.le_of_ble_eq_true rfl)
theorem x73_21 : Ev L xs ρ 73 21 [l0, l1, l2] (.int y :: .int x :: st) σ r ↔ Ev L xs ρ 73 22 [l0, l1, l2] (.int (x + y) :: st) σ r := ev_nx (ev_ex cm_73 dX5_allWorths_21 rfl rfl)
theorem x73_22 : Ev L xs ρ 73 22 [l0, l1, l2] (.int x :: st) σ r ↔ Ev L xs ρ 73 23 [l0, some (.int x), l2] st σ r := ev_istore_n cm_73 dX5_allWorths_22 rfl (Nat.le_of_ble_eq_true rfl)
theorem x73_23 : Ev L xs ρ 73 23 [l0, l1, some (.int x)] st σ r ↔ Ev L xs ρ 73 26 [l0, l1, some (.int (x + (1)))] st σ r := ev_iinc cm_73 dX5_allWorths_23 rfl (by decide)
theorem x73_26 : Ev L xs ρ 73 26 [l0, l1, l2] st σ r ↔ Ev L xs ρ 73 4 [l0, l1, l2] st σ r := ev_goto cm_73 dX5_allWorths_26 (by decide)
theorem x73_29 : Ev L xs ρ 73 29 [l0, some (.int x), l2] st σ r ↔ Ev L xs ρ 73 30 [l0, some (.int x), l2] (.int x :: st) σ r := ev_iload_n cm_73 dX5_allWorths_29 rfl rfl
theorem x73_30 : Ev L xs ρ 73 30 [l0, l1, l2] [.int x] σ r ↔ r = (some (.int x), σ) := ev_reti cm_73 dX5_allWorths_30 rfl
theorem cm_74 : mcd 74 = cX5_allHours := rfl
theorem em_74 : Em L xs 74 [.ref a] σ r ↔ Ev L xs 1 74 0 [some (.ref a), none, none] [] σ r := Iff.rfl
theorem x74_0 : Ev L xs ρ 74 0 [l0, l1, l2] st σ r ↔ Ev L xs ρ 74 1 [l0, l1, l2] (.int (0) :: st) σ r := ev_iconst cm_74 dX5_allHours_0 (by decide)
theorem x74_1 : Ev L xs ρ 74 1 [l0, l1, l2] (.int x :: st) σ r ↔ Ev L xs ρ 74 2 [l0, some (.int x), l2] st σ r := ev_istore_n cm_74 dX5_allHours_1 rfl (Nat.le_of_ble_eq_true rfl)
theorem x74_2 : Ev L xs ρ 74 2 [l0, l1, l2] st σ r ↔ Ev L xs ρ 74 3 [l0, l1, l2] (.int (0) :: st) σ r := ev_iconst cm_74 dX5_allHours_2 (by decide)
theorem x74_3 : Ev L xs ρ 74 3 [l0, l1, l2] (.int x :: st) σ r ↔ Ev L xs ρ 74 4 [l0, l1, some (.int x)] st σ r := ev_istore_n cm_74 dX5_allHours_3 rfl (Nat.le_of_ble_eq_true rfl)
theorem x74_4 : Ev L xs ρ 74 4 [l0, l1, some (.int x)] st σ r ↔ Ev L xs ρ 74 5 [l0, l1, some (.int x)] (.int x :: st) σ r := ev_iload_n cm_74 dX5_allHours_4 rfl rfl
theorem x74_5 : Ev L xs ρ 74 5 [some (.ref a), l1, l2] st σ r ↔ Ev L xs ρ 74 6 [some (.ref a), l1, l2] (.ref a :: st) σ r := ev_aload_n cm_74 dX5_allHours_5 rfl rfl
theorem x74_6 : Ev L xs ρ 74 6 [l0, l1, l2] (.ref a :: st) (n, I, Lm, Rm) r ↔ (a < n ∧ shp a = (0, 5)) ∧ Ev L xs ρ 74 9 [l0, l1, l2] (rfv (Rm a 1) :: st) (n, I, Lm, Rm) r := ev_gtR cm_74 dX5_allHours_6 rfl rfl
theorem x74_9 : Ev L xs ρ 74 9 [l0, l1, l2] (.ref a :: st) (n, I, Lm, Rm) r ↔ (a < n ∧ shp a = (0, 2)) ∧ Ev L xs ρ 74 12 [l0, l1, l2] (.int (I a 8) :: st) (n, I, Lm, Rm) r := ev_gtI cm_74 dX5_allHours_9 rfl rfl
theorem x74_12 : Ev L xs ρ 74 12 [l0, l1, l2] (.int y :: .int x :: st) σ r ↔ if y ≤ x then Ev L xs ρ 74 35 [l0, l1, l2] st σ r else Ev L xs ρ 74 15 [l0, l1, l2] st σ r := ev_icge cm_74 dX5_allHours_12 (by decide)
theorem x74_15 : Ev L xs ρ 74 15 [l0, some (.int x), l2] st σ r ↔ Ev L xs ρ 74 16 [l0, some (.int x), l2] (.int x :: st) σ r := ev_iload_n cm_74 dX5_allHours_15 rfl rfl
theorem x74_16 : Ev L xs ρ 74 16 [some (.ref a), l1, l2] st σ r ↔ Ev L xs ρ 74 17 [some (.ref a), l1, l2] (.ref a :: st) σ r := ev_aload_n cm_74 dX5_allHours_16 rfl rfl
theorem x74_17 : Ev L xs ρ 74 17 [l0, l1, l2] (.ref a :: st) (n, I, Lm, Rm) r ↔ (a < n ∧ shp a = (0, 5)) ∧ Ev L xs ρ 74 20 [l0, l1, l2] (rfv (Rm a 1) :: st) (n, I, Lm, Rm) r := ev_gtR cm_74 dX5_allHours_17 rfl rfl
theorem x74_20 : Ev L xs ρ 74 20 [l0, l1, l2] (.ref a :: st) (n, I, Lm, Rm) r ↔ (a < n ∧ shp a = (0, 2)) ∧ Ev L xs ρ 74 23 [l0, l1, l2] (rfv (Rm a 3) :: st) (n, I, Lm, Rm) r := ev_gtR cm_74 dX5_allHours_20 rfl rfl
theorem x74_23 : Ev L xs ρ 74 23 [l0, l1, some (.int x)] st σ r ↔ Ev L xs ρ 74 24 [l0, l1, some (.int x)] (.int x :: st) σ r := ev_iload_n cm_74 dX5_allHours_23 rfl rfl
theorem x74_24 : Ev L xs 1 74 24 [l0, l1, l2] (.int y :: .ref a :: .int x :: []) σ r ↔ ∃ v n2 I2 L2 R2, Em L xs 160 [.ref a, .int y] σ (v, n2, I2, L2, R2) ∧ Ev L xs 1 74 27 [l0, l1, l2] (v.toList ++ (.int x :: [])) (n2, I2, L2, R2) r := ev_cS cm_74 [.ref a, .int y] dX5_allHours_24 rfl rfl rfl (Nat.le_of_ble_eq_true rfl) (rka_lt rfl (by decide)) (Nat.le_of_ble_eq_true rfl)
theorem x74_27 : Ev L xs ρ 74 27 [l0, l1, l2] (.int y :: .int x :: st) σ r ↔ Ev L xs ρ 74 28 [l0, l1, l2] (.int (x + y) :: st) σ r := ev_nx (ev_ex cm_74 dX5_allHours_27 rfl rfl)
theorem x74_28 : Ev L xs ρ 74 28 [l0, l1, l2] (.int x :: st) σ r ↔ Ev L xs ρ 74 29 [l0, some (.int x), l2] st σ r := ev_istore_n cm_74 dX5_allHours_28 rfl (Nat.le_of_ble_eq_true rfl)
theorem x74_29 : Ev L xs ρ 74 29 [l0, l1, some (.int x)] st σ r ↔ Ev L xs ρ 74 32 [l0, l1, some (.int (x + (1)))] st σ r := ev_iinc cm_74 dX5_allHours_29 rfl (by decide)
theorem x74_32 : Ev L xs ρ 74 32 [l0, l1, l2] st σ r ↔ Ev L xs ρ 74 4 [l0, l1, l2] st σ r := ev_goto cm_74 dX5_allHours_32 (by decide)
theorem x74_35 : Ev L xs ρ 74 35 [l0, some (.int x), l2] st σ r ↔ Ev L xs ρ 74 36 [l0, some (.int x), l2] (.int x :: st) σ r := ev_iload_n cm_74 dX5_allHours_35 rfl rfl
theorem x74_36 : Ev L xs ρ 74 36 [l0, l1, l2] [.int x] σ r ↔ r = (some (.int x), σ) := ev_reti cm_74 dX5_allHours_36 rfl
theorem cm_75 : mcd 75 = cX5_hoursIn := rfl
theorem em_75 : Em L xs 75 [.ref a, .int x] σ r ↔ Ev L xs 1 75 0 [some (.ref a), some (.int x), none, none] [] σ r := Iff.rfl
theorem x75_0 : Ev L xs ρ 75 0 [l0, l1, l2, l3] st σ r ↔ Ev L xs ρ 75 1 [l0, l1, l2, l3] (.int (0) :: st) σ r := ev_iconst cm_75 dX5_hoursIn_0 (by decide)
theorem x75_1 : Ev L xs ρ 75 1 [l0, l1, l2, l3] (.int x :: st) σ r ↔ Ev L xs ρ 75 2 [l0, l1, some (.int x), l3] st σ r := ev_istore_n cm_75 dX5_hoursIn_1 rfl (Nat.le_of_ble_eq_true rfl)
theorem x75_2 : Ev L xs ρ 75 2 [l0, l1, l2, l3] st σ r ↔ Ev L xs ρ 75 3 [l0, l1, l2, l3] (.int (0) :: st) σ r := ev_iconst cm_75 dX5_hoursIn_2 (by decide)
theorem x75_3 : Ev L xs ρ 75 3 [l0, l1, l2, l3] (.int x :: st) σ r ↔ Ev L xs ρ 75 4 [l0, l1, l2, some (.int x)] st σ r := ev_istore_n cm_75 dX5_hoursIn_3 rfl (Nat.le_of_ble_eq_true rfl)
theorem x75_4 : Ev L xs ρ 75 4 [l0, l1, l2, some (.int x)] st σ r ↔ Ev L xs ρ 75 5 [l0, l1, l2, some (.int x)] (.int x :: st) σ r := ev_iload_n cm_75 dX5_hoursIn_4 rfl rfl
theorem x75_5 : Ev L xs ρ 75 5 [some (.ref a), l1, l2, l3] st σ r ↔ Ev L xs ρ 75 6 [some (.ref a), l1, l2, l3] (.ref a :: st) σ r := ev_aload_n cm_75 dX5_hoursIn_5 rfl rfl
theorem x75_6 : Ev L xs ρ 75 6 [l0, l1, l2, l3] (.ref a :: st) (n, I, Lm, Rm) r ↔ (a < n ∧ shp a = (0, 5)) ∧ Ev L xs ρ 75 9 [l0, l1, l2, l3] (rfv (Rm a 1) :: st) (n, I, Lm, Rm) r := ev_gtR cm_75 dX5_hoursIn_6 rfl rfl
theorem x75_9 : Ev L xs ρ 75 9 [l0, l1, l2, l3] (.ref a :: st) (n, I, Lm, Rm) r ↔ (a < n ∧ shp a = (0, 2)) ∧ Ev L xs ρ 75 12 [l0, l1, l2, l3] (.int (I a 8) :: st) (n, I, Lm, Rm) r := ev_gtI cm_75 dX5_hoursIn_9 rfl rfl
theorem x75_12 : Ev L xs ρ 75 12 [l0, l1, l2, l3] (.int y :: .int x :: st) σ r ↔ if y ≤ x then Ev L xs ρ 75 50 [l0, l1, l2, l3] st σ r else Ev L xs ρ 75 15 [l0, l1, l2, l3] st σ r := ev_icge cm_75 dX5_hoursIn_12 (by decide)
theorem x75_15 : Ev L xs ρ 75 15 [some (.ref a), l1, l2, l3] st σ r ↔ Ev L xs ρ 75 16 [some (.ref a), l1, l2, l3] (.ref a :: st) σ r := ev_aload_n cm_75 dX5_hoursIn_15 rfl rfl
theorem x75_16 : Ev L xs ρ 75 16 [l0, l1, l2, l3] (.ref a :: st) (n, I, Lm, Rm) r ↔ (a < n ∧ shp a = (0, 5)) ∧ Ev L xs ρ 75 19 [l0, l1, l2, l3] (rfv (Rm a 1) :: st) (n, I, Lm, Rm) r := ev_gtR cm_75 dX5_hoursIn_16 rfl rfl
theorem x75_19 : Ev L xs ρ 75 19 [l0, l1, l2, l3] (.ref a :: st) (n, I, Lm, Rm) r ↔ (a < n ∧ shp a = (0, 2)) ∧ Ev L xs ρ 75 22 [l0, l1, l2, l3] (rfv (Rm a 2) :: st) (n, I, Lm, Rm) r := ev_gtR cm_75 dX5_hoursIn_19 rfl rfl
theorem x75_22 : Ev L xs ρ 75 22 [l0, l1, l2, some (.int x)] st σ r ↔ Ev L xs ρ 75 23 [l0, l1, l2, some (.int x)] (.int x :: st) σ r := ev_iload_n cm_75 dX5_hoursIn_22 rfl rfl
theorem x75_23 : Ev L xs 1 75 23 [l0, l1, l2, l3] (.int x :: .ref a :: []) σ r ↔ ∃ v n2 I2 L2 R2, Em L xs 160 [.ref a, .int x] σ (v, n2, I2, L2, R2) ∧ Ev L xs 1 75 26 [l0, l1, l2, l3] (v.toList ++ []) (n2, I2, L2, R2) r := ev_cS cm_75 [.ref a, .int x] dX5_hoursIn_23 rfl rfl rfl (Nat.le_of_ble_eq_true rfl) (rka_lt rfl (by decide)) (Nat.le_of_ble_eq_true rfl)
theorem x75_26 : Ev L xs ρ 75 26 [l0, some (.int x), l2, l3] st σ r ↔ Ev L xs ρ 75 27 [l0, some (.int x), l2, l3] (.int x :: st) σ r := ev_iload_n cm_75 dX5_hoursIn_26 rfl rfl
theorem x75_27 : Ev L xs ρ 75 27 [l0, l1, l2, l3] (.int y :: .int x :: st) σ r ↔ if x = y then Ev L xs ρ 75 30 [l0, l1, l2, l3] st σ r else Ev L xs ρ 75 44 [l0, l1, l2, l3] st σ r := ev_icne cm_75 dX5_hoursIn_27 (by decide)
theorem x75_30 : Ev L xs ρ 75 30 [l0, l1, some (.int x), l3] st σ r ↔ Ev L xs ρ 75 31 [l0, l1, some (.int x), l3] (.int x :: st) σ r := ev_iload_n cm_75 dX5_hoursIn_30 rfl rfl
theorem x75_31 : Ev L xs ρ 75 31 [some (.ref a), l1, l2, l3] st σ r ↔ Ev L xs ρ 75 32 [some (.ref a), l1, l2, l3] (.ref a :: st) σ r := ev_aload_n cm_75 dX5_hoursIn_31 rfl rfl
theorem x75_32 : Ev L xs ρ 75 32 [l0, l1, l2, l3] (.ref a :: st) (n, I, Lm, Rm) r ↔ (a < n ∧ shp a = (0, 5)) ∧ Ev L xs ρ 75 35 [l0, l1, l2, l3] (rfv (Rm a 1) :: st) (n, I, Lm, Rm) r := ev_gtR cm_75 dX5_hoursIn_32 rfl rfl
theorem x75_35 : Ev L xs ρ 75 35 [l0, l1, l2, l3] (.ref a :: st) (n, I, Lm, Rm) r ↔ (a < n ∧ shp a = (0, 2)) ∧ Ev L xs ρ 75 38 [l0, l1, l2, l3] (rfv (Rm a 3) :: st) (n, I, Lm, Rm) r := ev_gtR cm_75 dX5_hoursIn_35 rfl rfl
theorem x75_38 : Ev L xs ρ 75 38 [l0, l1, l2, some (.int x)] st σ r ↔ Ev L xs ρ 75 39 [l0, l1, l2, some (.int x)] (.int x :: st) σ r := ev_iload_n cm_75 dX5_hoursIn_38 rfl rfl
theorem x75_39 : Ev L xs 1 75 39 [l0, l1, l2, l3] (.int y :: .ref a :: .int x :: []) σ r ↔ ∃ v n2 I2 L2 R2, Em L xs 160 [.ref a, .int y] σ (v, n2, I2, L2, R2) ∧ Ev L xs 1 75 42 [l0, l1, l2, l3] (v.toList ++ (.int x :: [])) (n2, I2, L2, R2) r := ev_cS cm_75 [.ref a, .int y] dX5_hoursIn_39 rfl rfl rfl (Nat.le_of_ble_eq_true rfl) (rka_lt rfl (by decide)) (Nat.le_of_ble_eq_true rfl)
theorem x75_42 : Ev L xs ρ 75 42 [l0, l1, l2, l3] (.int y :: .int x :: st) σ r ↔ Ev L xs ρ 75 43 [l0, l1, l2, l3] (.int (x + y) :: st) σ r := ev_nx (ev_ex cm_75 dX5_hoursIn_42 rfl rfl)
theorem x75_43 : Ev L xs ρ 75 43 [l0, l1, l2, l3] (.int x :: st) σ r ↔ Ev L xs ρ 75 44 [l0, l1, some (.int x), l3] st σ r := ev_istore_n cm_75 dX5_hoursIn_43 rfl (Nat.le_of_ble_eq_true rfl)
theorem x75_44 : Ev L xs ρ 75 44 [l0, l1, l2, some (.int x)] st σ r ↔ Ev L xs ρ 75 47 [l0, l1, l2, some (.int (x + (1)))] st σ r := ev_iinc cm_75 dX5_hoursIn_44 rfl (by decide)
theorem x75_47 : Ev L xs ρ 75 47 [l0, l1, l2, l3] st σ r ↔ Ev L xs ρ 75 4 [l0, l1, l2, l3] st σ r := ev_goto cm_75 dX5_hoursIn_47 (by decide)
theorem x75_50 : Ev L xs ρ 75 50 [l0, l1, some (.int x), l3] st σ r ↔ Ev L xs ρ 75 51 [l0, l1, some (.int x), l3] (.int x :: st) σ r := ev_iload_n cm_75 dX5_hoursIn_50 rfl rfl
theorem x75_51 : Ev L xs ρ 75 51 [l0, l1, l2, l3] [.int x] σ r ↔ r = (some (.int x), σ) := ev_reti cm_75 dX5_hoursIn_51 rfl
theorem cm_76 : mcd 76 = cX5_allWorkLeast := rfl
theorem em_76 : Em L xs 76 [.ref a, .int x] σ r ↔ Ev L xs 1 76 0 [some (.ref a), some (.int x), none] [] σ r := Iff.rfl
theorem x76_0 : Ev L xs ρ 76 0 [l0, l1, l2] st σ r ↔ Ev L xs ρ 76 1 [l0, l1, l2] (.int (0) :: st) σ r := ev_iconst cm_76 dX5_allWorkLeast_0 (by decide)
theorem x76_1 : Ev L xs ρ 76 1 [l0, l1, l2] (.int x :: st) σ r ↔ Ev L xs ρ 76 2 [l0, l1, some (.int x)] st σ r := ev_istore_n cm_76 dX5_allWorkLeast_1 rfl (Nat.le_of_ble_eq_true rfl)
theorem x76_2 : Ev L xs ρ 76 2 [l0, l1, some (.int x)] st σ r ↔ Ev L xs ρ 76 3 [l0, l1, some (.int x)] (.int x :: st) σ r := ev_iload_n cm_76 dX5_allWorkLeast_2 rfl rfl
theorem x76_3 : Ev L xs ρ 76 3 [some (.ref a), l1, l2] st σ r ↔ Ev L xs ρ 76 4 [some (.ref a), l1, l2] (.ref a :: st) σ r := ev_aload_n cm_76 dX5_allWorkLeast_3 rfl rfl
theorem x76_4 : Ev L xs ρ 76 4 [l0, l1, l2] (.ref a :: st) (n, I, Lm, Rm) r ↔ (a < n ∧ shp a = (0, 5)) ∧ Ev L xs ρ 76 7 [l0, l1, l2] (rfv (Rm a 1) :: st) (n, I, Lm, Rm) r := ev_gtR cm_76 dX5_allWorkLeast_4 rfl rfl
theorem x76_7 : Ev L xs ρ 76 7 [l0, l1, l2] (.ref a :: st) (n, I, Lm, Rm) r ↔ (a < n ∧ shp a = (0, 2)) ∧ Ev L xs ρ 76 10 [l0, l1, l2] (.int (I a 8) :: st) (n, I, Lm, Rm) r := ev_gtI cm_76 dX5_allWorkLeast_7 rfl rfl
theorem x76_10 : Ev L xs ρ 76 10 [l0, l1, l2] (.int y :: .int x :: st) σ r ↔ if y ≤ x then Ev L xs ρ 76 61 [l0, l1, l2] st σ r else Ev L xs ρ 76 13 [l0, l1, l2] st σ r := ev_icge cm_76 dX5_allWorkLeast_10 (by decide)
theorem x76_13 : Ev L xs ρ 76 13 [some (.ref a), l1, l2] st σ r ↔ Ev L xs ρ 76 14 [some (.ref a), l1, l2] (.ref a :: st) σ r := ev_aload_n cm_76 dX5_allWorkLeast_13 rfl rfl
theorem x76_14 : Ev L xs ρ 76 14 [l0, l1, l2] (.ref a :: st) (n, I, Lm, Rm) r ↔ (a < n ∧ shp a = (0, 5)) ∧ Ev L xs ρ 76 17 [l0, l1, l2] (rfv (Rm a 1) :: st) (n, I, Lm, Rm) r := ev_gtR cm_76 dX5_allWorkLeast_14 rfl rfl
theorem x76_17 : Ev L xs ρ 76 17 [l0, l1, l2] (.ref a :: st) (n, I, Lm, Rm) r ↔ (a < n ∧ shp a = (0, 2)) ∧ Ev L xs ρ 76 20 [l0, l1, l2] (rfv (Rm a 2) :: st) (n, I, Lm, Rm) r := ev_gtR cm_76 dX5_allWorkLeast_17 rfl rfl
theorem x76_20 : Ev L xs ρ 76 20 [l0, l1, some (.int x)] st σ r ↔ Ev L xs ρ 76 21 [l0, l1, some (.int x)] (.int x :: st) σ r := ev_iload_n cm_76 dX5_allWorkLeast_20 rfl rfl
theorem x76_21 : Ev L xs 1 76 21 [l0, l1, l2] (.int x :: .ref a :: []) σ r ↔ ∃ v n2 I2 L2 R2, Em L xs 160 [.ref a, .int x] σ (v, n2, I2, L2, R2) ∧ Ev L xs 1 76 24 [l0, l1, l2] (v.toList ++ []) (n2, I2, L2, R2) r := ev_cS cm_76 [.ref a, .int x] dX5_allWorkLeast_21 rfl rfl rfl (Nat.le_of_ble_eq_true rfl) (rka_lt rfl (by decide)) (Nat.le_of_ble_eq_true rfl)
theorem x76_24 : Ev L xs ρ 76 24 [l0, some (.int x), l2] st σ r ↔ Ev L xs ρ 76 25 [l0, some (.int x), l2] (.int x :: st) σ r := ev_iload_n cm_76 dX5_allWorkLeast_24 rfl rfl
theorem x76_25 : Ev L xs ρ 76 25 [l0, l1, l2] (.int y :: .int x :: st) σ r ↔ if x = y then Ev L xs ρ 76 28 [l0, l1, l2] st σ r else Ev L xs ρ 76 55 [l0, l1, l2] st σ r := ev_icne cm_76 dX5_allWorkLeast_25 (by decide)
theorem x76_28 : Ev L xs ρ 76 28 [some (.ref a), l1, l2] st σ r ↔ Ev L xs ρ 76 29 [some (.ref a), l1, l2] (.ref a :: st) σ r := ev_aload_n cm_76 dX5_allWorkLeast_28 rfl rfl
theorem x76_29 : Ev L xs ρ 76 29 [l0, l1, l2] (.ref a :: st) (n, I, Lm, Rm) r ↔ (a < n ∧ shp a = (0, 5)) ∧ Ev L xs ρ 76 32 [l0, l1, l2] (rfv (Rm a 1) :: st) (n, I, Lm, Rm) r := ev_gtR cm_76 dX5_allWorkLeast_29 rfl rfl
theorem x76_32 : Ev L xs ρ 76 32 [l0, l1, l2] (.ref a :: st) (n, I, Lm, Rm) r ↔ (a < n ∧ shp a = (0, 2)) ∧ Ev L xs ρ 76 35 [l0, l1, l2] (rfv (Rm a 3) :: st) (n, I, Lm, Rm) r := ev_gtR cm_76 dX5_allWorkLeast_32 rfl rfl
theorem x76_35 : Ev L xs ρ 76 35 [l0, l1, some (.int x)] st σ r ↔ Ev L xs ρ 76 36 [l0, l1, some (.int x)] (.int x :: st) σ r := ev_iload_n cm_76 dX5_allWorkLeast_35 rfl rfl
theorem x76_36 : Ev L xs 1 76 36 [l0, l1, l2] (.int x :: .ref a :: []) σ r ↔ ∃ v n2 I2 L2 R2, Em L xs 160 [.ref a, .int x] σ (v, n2, I2, L2, R2) ∧ Ev L xs 1 76 39 [l0, l1, l2] (v.toList ++ []) (n2, I2, L2, R2) r := ev_cS cm_76 [.ref a, .int x] dX5_allWorkLeast_36 rfl rfl rfl (Nat.le_of_ble_eq_true rfl) (rka_lt rfl (by decide)) (Nat.le_of_ble_eq_true rfl)
theorem x76_39 : Ev L xs ρ 76 39 [some (.ref a), l1, l2] st σ r ↔ Ev L xs ρ 76 40 [some (.ref a), l1, l2] (.ref a :: st) σ r := ev_aload_n cm_76 dX5_allWorkLeast_39 rfl rfl
theorem x76_40 : Ev L xs ρ 76 40 [l0, l1, l2] (.ref a :: st) (n, I, Lm, Rm) r ↔ (a < n ∧ shp a = (0, 5)) ∧ Ev L xs ρ 76 43 [l0, l1, l2] (rfv (Rm a 0) :: st) (n, I, Lm, Rm) r := ev_gtR cm_76 dX5_allWorkLeast_40 rfl rfl
theorem x76_43 : Ev L xs ρ 76 43 [l0, l1, l2] (.ref a :: st) (n, I, Lm, Rm) r ↔ (a < n ∧ shp a = (0, 1)) ∧ Ev L xs ρ 76 46 [l0, l1, l2] (rfv (Rm a 2) :: st) (n, I, Lm, Rm) r := ev_gtR cm_76 dX5_allWorkLeast_43 rfl rfl
theorem x76_46 : Ev L xs ρ 76 46 [l0, some (.int x), l2] st σ r ↔ Ev L xs ρ 76 47 [l0, some (.int x), l2] (.int x :: st) σ r := ev_iload_n cm_76 dX5_allWorkLeast_46 rfl rfl
theorem x76_47 : Ev L xs 1 76 47 [l0, l1, l2] (.int y :: .ref a :: .int x :: []) σ r ↔ ∃ v n2 I2 L2 R2, Em L xs 160 [.ref a, .int y] σ (v, n2, I2, L2, R2) ∧ Ev L xs 1 76 50 [l0, l1, l2] (v.toList ++ (.int x :: [])) (n2, I2, L2, R2) r := ev_cS cm_76 [.ref a, .int y] dX5_allWorkLeast_47 rfl rfl rfl (Nat.le_of_ble_eq_true rfl) (rka_lt rfl (by decide)) (Nat.le_of_ble_eq_true rfl)
theorem x76_50 : Ev L xs ρ 76 50 [l0, l1, l2] (.int y :: .int x :: st) σ r ↔ if y ≤ x then Ev L xs ρ 76 55 [l0, l1, l2] st σ r else Ev L xs ρ 76 53 [l0, l1, l2] st σ r := ev_icge cm_76 dX5_allWorkLeast_50 (by decide)
theorem x76_53 : Ev L xs ρ 76 53 [l0, l1, l2] st σ r ↔ Ev L xs ρ 76 54 [l0, l1, l2] (.int (0) :: st) σ r := ev_iconst cm_76 dX5_allWorkLeast_53 (by decide)
theorem x76_54 : Ev L xs ρ 76 54 [l0, l1, l2] [.int x] σ r ↔ (x = 0 ∨ x = 1) ∧ r = (some (.int x), σ) := ev_retz cm_76 dX5_allWorkLeast_54 rfl
theorem x76_55 : Ev L xs ρ 76 55 [l0, l1, some (.int x)] st σ r ↔ Ev L xs ρ 76 58 [l0, l1, some (.int (x + (1)))] st σ r := ev_iinc cm_76 dX5_allWorkLeast_55 rfl (by decide)
theorem x76_58 : Ev L xs ρ 76 58 [l0, l1, l2] st σ r ↔ Ev L xs ρ 76 2 [l0, l1, l2] st σ r := ev_goto cm_76 dX5_allWorkLeast_58 (by decide)
theorem x76_61 : Ev L xs ρ 76 61 [l0, l1, l2] st σ r ↔ Ev L xs ρ 76 62 [l0, l1, l2] (.int (1) :: st) σ r := ev_iconst cm_76 dX5_allWorkLeast_61 (by decide)
theorem x76_62 : Ev L xs ρ 76 62 [l0, l1, l2] [.int x] σ r ↔ (x = 0 ∨ x = 1) ∧ r = (some (.int x), σ) := ev_retz cm_76 dX5_allWorkLeast_62 rfl
theorem cm_77 : mcd 77 = cX5_bestHours := rfl
theorem em_77 : Em L xs 77 [.ref a, .int x, .int y] σ r ↔ Ev L xs 3 77 0 [some (.ref a), some (.int x), some (.int y), none, none, none, none] [] σ r := Iff.rfl
theorem x77_0 : Ev L xs ρ 77 0 [some (.ref a), l1, l2, l3, l4, l5, l6] st σ r ↔ Ev L xs ρ 77 1 [some (.ref a), l1, l2, l3, l4, l5, l6] (.ref a :: st) σ r := ev_aload_n cm_77 dX5_bestHours_0 rfl rfl
theorem x77_1 : Ev L xs ρ 77 1 [l0, l1, l2, l3, l4, l5, l6] (.ref a :: st) (n, I, Lm, Rm) r ↔ (a < n ∧ shp a = (0, 5)) ∧ Ev L xs ρ 77 4 [l0, l1, l2, l3, l4, l5, l6] (rfv (Rm a 2) :: st) (n, I, Lm, Rm) r := ev_gtR cm_77 dX5_bestHours_1 rfl rfl
theorem x77_4 : Ev L xs ρ 77 4 [some (.ref a), l1, l2, l3, l4, l5, l6] st σ r ↔ Ev L xs ρ 77 5 [some (.ref a), l1, l2, l3, l4, l5, l6] (.ref a :: st) σ r := ev_aload_n cm_77 dX5_bestHours_4 rfl rfl
theorem x77_5 : Ev L xs ρ 77 5 [l0, some (.int x), l2, l3, l4, l5, l6] st σ r ↔ Ev L xs ρ 77 6 [l0, some (.int x), l2, l3, l4, l5, l6] (.int x :: st) σ r := ev_iload_n cm_77 dX5_bestHours_5 rfl rfl
theorem x77_6 : Ev L xs ρ 77 6 [l0, l1, some (.int x), l3, l4, l5, l6] st σ r ↔ Ev L xs ρ 77 7 [l0, l1, some (.int x), l3, l4, l5, l6] (.int x :: st) σ r := ev_iload_n cm_77 dX5_bestHours_6 rfl rfl
theorem x77_7 : Ev L xs 3 77 7 [l0, l1, l2, l3, l4, l5, l6] (.int y :: .int x :: .ref b :: .ref a :: []) (n, I, Lm, Rm) r ↔ (a < n ∧ shp a = (0, 0)) ∧ ∃ v n2 I2 L2 R2, Em L xs 1 [.ref a, .ref b, .int x, .int y] (n, I, Lm, Rm) (v, n2, I2, L2, R2) ∧ Ev L xs 3 77 10 [l0, l1, l2, l3, l4, l5, l6] (v.toList ++ []) (n2, I2, L2, R2) r := ev_cV cm_77 [.ref b, .int x, .int y] dX5_bestHours_7 rfl rfl rfl rfl (Nat.le_of_ble_eq_true rfl) (rka_lt rfl (by decide)) (Nat.le_of_ble_eq_true rfl)
theorem x77_10 : Ev L xs ρ 77 10 [l0, l1, l2, l3, l4, l5, l6] st σ r ↔ Ev L xs ρ 77 11 [l0, l1, l2, l3, l4, l5, l6] (.int (0) :: st) σ r := ev_iconst cm_77 dX5_bestHours_10 (by decide)
theorem x77_11 : Ev L xs ρ 77 11 [l0, l1, l2, l3, l4, l5, l6] (.int x :: st) σ r ↔ Ev L xs ρ 77 12 [l0, l1, l2, some (.int x), l4, l5, l6] st σ r := ev_istore_n cm_77 dX5_bestHours_11 rfl (Nat.le_of_ble_eq_true rfl)
theorem x77_12 : Ev L xs ρ 77 12 [some (.ref a), l1, l2, l3, l4, l5, l6] st σ r ↔ Ev L xs ρ 77 13 [some (.ref a), l1, l2, l3, l4, l5, l6] (.ref a :: st) σ r := ev_aload_n cm_77 dX5_bestHours_12 rfl rfl
theorem x77_13 : Ev L xs ρ 77 13 [l0, l1, l2, l3, l4, l5, l6] (.ref a :: st) (n, I, Lm, Rm) r ↔ (a < n ∧ shp a = (0, 5)) ∧ Ev L xs ρ 77 16 [l0, l1, l2, l3, l4, l5, l6] (rfv (Rm a 2) :: st) (n, I, Lm, Rm) r := ev_gtR cm_77 dX5_bestHours_13 rfl rfl
theorem x77_16 : Ev L xs ρ 77 16 [l0, l1, l2, l3, l4, l5, l6] st σ r ↔ Ev L xs ρ 77 17 [l0, l1, l2, l3, l4, l5, l6] (.int (0) :: st) σ r := ev_iconst cm_77 dX5_bestHours_16 (by decide)
theorem x77_17 : Ev L xs 3 77 17 [l0, l1, l2, l3, l4, l5, l6] (.int x :: .ref a :: []) (n, I, Lm, Rm) r ↔ (a < n ∧ shp a = (0, 0)) ∧ ∃ v n2 I2 L2 R2, Em L xs 4 [.ref a, .int x] (n, I, Lm, Rm) (v, n2, I2, L2, R2) ∧ Ev L xs 3 77 20 [l0, l1, l2, l3, l4, l5, l6] (v.toList ++ []) (n2, I2, L2, R2) r := ev_cV cm_77 [.int x] dX5_bestHours_17 rfl rfl rfl rfl (Nat.le_of_ble_eq_true rfl) (rka_lt rfl (by decide)) (Nat.le_of_ble_eq_true rfl)
theorem x77_20 : Ev L xs ρ 77 20 [l0, l1, l2, l3, l4, l5, l6] (.int x :: st) σ r ↔ Ev L xs ρ 77 22 [l0, l1, l2, l3, some (.int x), l5, l6] st σ r := ev_istore cm_77 dX5_bestHours_20 (Nat.le_of_ble_eq_true rfl)
theorem x77_22 : Ev L xs ρ 77 22 [l0, l1, l2, l3, l4, l5, l6] st σ r ↔ Ev L xs ρ 77 23 [l0, l1, l2, l3, l4, l5, l6] (.int (1) :: st) σ r := ev_iconst cm_77 dX5_bestHours_22 (by decide)
theorem x77_23 : Ev L xs ρ 77 23 [l0, l1, l2, l3, l4, l5, l6] (.int x :: st) σ r ↔ Ev L xs ρ 77 25 [l0, l1, l2, l3, l4, some (.int x), l6] st σ r := ev_istore cm_77 dX5_bestHours_23 (Nat.le_of_ble_eq_true rfl)
theorem x77_25 : Ev L xs ρ 77 25 [l0, l1, l2, l3, l4, some (.int x), l6] st σ r ↔ Ev L xs ρ 77 27 [l0, l1, l2, l3, l4, some (.int x), l6] (.int x :: st) σ r := ev_iload cm_77 dX5_bestHours_25 rfl
theorem x77_27 : Ev L xs ρ 77 27 [some (.ref a), l1, l2, l3, l4, l5, l6] st σ r ↔ Ev L xs ρ 77 28 [some (.ref a), l1, l2, l3, l4, l5, l6] (.ref a :: st) σ r := ev_aload_n cm_77 dX5_bestHours_27 rfl rfl
theorem x77_28 : Ev L xs ρ 77 28 [l0, l1, l2, l3, l4, l5, l6] (.ref a :: st) (n, I, Lm, Rm) r ↔ (a < n ∧ shp a = (0, 5)) ∧ Ev L xs ρ 77 31 [l0, l1, l2, l3, l4, l5, l6] (.int (I a 6) :: st) (n, I, Lm, Rm) r := ev_gtI cm_77 dX5_bestHours_28 rfl rfl
theorem x77_31 : Ev L xs ρ 77 31 [l0, l1, l2, l3, l4, l5, l6] (.int y :: .int x :: st) σ r ↔ if y < x then Ev L xs ρ 77 65 [l0, l1, l2, l3, l4, l5, l6] st σ r else Ev L xs ρ 77 34 [l0, l1, l2, l3, l4, l5, l6] st σ r := ev_icgt cm_77 dX5_bestHours_31 (by decide)
theorem x77_34 : Ev L xs ρ 77 34 [some (.ref a), l1, l2, l3, l4, l5, l6] st σ r ↔ Ev L xs ρ 77 35 [some (.ref a), l1, l2, l3, l4, l5, l6] (.ref a :: st) σ r := ev_aload_n cm_77 dX5_bestHours_34 rfl rfl
theorem x77_35 : Ev L xs ρ 77 35 [l0, l1, l2, l3, l4, l5, l6] (.ref a :: st) (n, I, Lm, Rm) r ↔ (a < n ∧ shp a = (0, 5)) ∧ Ev L xs ρ 77 38 [l0, l1, l2, l3, l4, l5, l6] (rfv (Rm a 2) :: st) (n, I, Lm, Rm) r := ev_gtR cm_77 dX5_bestHours_35 rfl rfl
theorem x77_38 : Ev L xs ρ 77 38 [l0, l1, l2, l3, l4, some (.int x), l6] st σ r ↔ Ev L xs ρ 77 40 [l0, l1, l2, l3, l4, some (.int x), l6] (.int x :: st) σ r := ev_iload cm_77 dX5_bestHours_38 rfl
theorem x77_40 : Ev L xs 3 77 40 [l0, l1, l2, l3, l4, l5, l6] (.int x :: .ref a :: []) (n, I, Lm, Rm) r ↔ (a < n ∧ shp a = (0, 0)) ∧ ∃ v n2 I2 L2 R2, Em L xs 4 [.ref a, .int x] (n, I, Lm, Rm) (v, n2, I2, L2, R2) ∧ Ev L xs 3 77 43 [l0, l1, l2, l3, l4, l5, l6] (v.toList ++ []) (n2, I2, L2, R2) r := ev_cV cm_77 [.int x] dX5_bestHours_40 rfl rfl rfl rfl (Nat.le_of_ble_eq_true rfl) (rka_lt rfl (by decide)) (Nat.le_of_ble_eq_true rfl)
theorem x77_43 : Ev L xs ρ 77 43 [l0, l1, l2, l3, l4, l5, l6] (.int x :: st) σ r ↔ Ev L xs ρ 77 45 [l0, l1, l2, l3, l4, l5, some (.int x)] st σ r := ev_istore cm_77 dX5_bestHours_43 (Nat.le_of_ble_eq_true rfl)
theorem x77_45 : Ev L xs ρ 77 45 [l0, l1, l2, l3, l4, l5, some (.int x)] st σ r ↔ Ev L xs ρ 77 47 [l0, l1, l2, l3, l4, l5, some (.int x)] (.int x :: st) σ r := ev_iload cm_77 dX5_bestHours_45 rfl
theorem x77_47 : Ev L xs ρ 77 47 [l0, l1, l2, l3, some (.int x), l5, l6] st σ r ↔ Ev L xs ρ 77 49 [l0, l1, l2, l3, some (.int x), l5, l6] (.int x :: st) σ r := ev_iload cm_77 dX5_bestHours_47 rfl
theorem x77_49 : Ev L xs ρ 77 49 [l0, l1, l2, l3, l4, l5, l6] (.int y :: .int x :: st) σ r ↔ if x ≤ y then Ev L xs ρ 77 59 [l0, l1, l2, l3, l4, l5, l6] st σ r else Ev L xs ρ 77 52 [l0, l1, l2, l3, l4, l5, l6] st σ r := ev_icle cm_77 dX5_bestHours_49 (by decide)
theorem x77_52 : Ev L xs ρ 77 52 [l0, l1, l2, l3, l4, some (.int x), l6] st σ r ↔ Ev L xs ρ 77 54 [l0, l1, l2, l3, l4, some (.int x), l6] (.int x :: st) σ r := ev_iload cm_77 dX5_bestHours_52 rfl
theorem x77_54 : Ev L xs ρ 77 54 [l0, l1, l2, l3, l4, l5, l6] (.int x :: st) σ r ↔ Ev L xs ρ 77 55 [l0, l1, l2, some (.int x), l4, l5, l6] st σ r := ev_istore_n cm_77 dX5_bestHours_54 rfl (Nat.le_of_ble_eq_true rfl)
theorem x77_55 : Ev L xs ρ 77 55 [l0, l1, l2, l3, l4, l5, some (.int x)] st σ r ↔ Ev L xs ρ 77 57 [l0, l1, l2, l3, l4, l5, some (.int x)] (.int x :: st) σ r := ev_iload cm_77 dX5_bestHours_55 rfl
theorem x77_57 : Ev L xs ρ 77 57 [l0, l1, l2, l3, l4, l5, l6] (.int x :: st) σ r ↔ Ev L xs ρ 77 59 [l0, l1, l2, l3, some (.int x), l5, l6] st σ r := ev_istore cm_77 dX5_bestHours_57 (Nat.le_of_ble_eq_true rfl)
theorem x77_59 : Ev L xs ρ 77 59 [l0, l1, l2, l3, l4, some (.int x), l6] st σ r ↔ Ev L xs ρ 77 62 [l0, l1, l2, l3, l4, some (.int (x + (1))), l6] st σ r := ev_iinc cm_77 dX5_bestHours_59 rfl (by decide)
theorem x77_62 : Ev L xs ρ 77 62 [l0, l1, l2, l3, l4, l5, l6] st σ r ↔ Ev L xs ρ 77 25 [l0, l1, l2, l3, l4, l5, l6] st σ r := ev_goto cm_77 dX5_bestHours_62 (by decide)
theorem x77_65 : Ev L xs ρ 77 65 [l0, l1, l2, some (.int x), l4, l5, l6] st σ r ↔ Ev L xs ρ 77 66 [l0, l1, l2, some (.int x), l4, l5, l6] (.int x :: st) σ r := ev_iload_n cm_77 dX5_bestHours_65 rfl rfl
theorem x77_66 : Ev L xs ρ 77 66 [l0, l1, l2, l3, l4, l5, l6] [.int x] σ r ↔ r = (some (.int x), σ) := ev_reti cm_77 dX5_bestHours_66 rfl
theorem cm_78 : mcd 78 = cX5_changesInRound := rfl
theorem em_78 : Em L xs 78 [.ref a] σ r ↔ Ev L xs 4 78 0 [some (.ref a), none, none, none] [] σ r := Iff.rfl
theorem x78_0 : Ev L xs ρ 78 0 [l0, l1, l2, l3] st σ r ↔ Ev L xs ρ 78 1 [l0, l1, l2, l3] (.int (0) :: st) σ r := ev_iconst cm_78 dX5_changesInRound_0 (by decide)
theorem x78_1 : Ev L xs ρ 78 1 [l0, l1, l2, l3] (.int x :: st) σ r ↔ Ev L xs ρ 78 2 [l0, some (.int x), l2, l3] st σ r := ev_istore_n cm_78 dX5_changesInRound_1 rfl (Nat.le_of_ble_eq_true rfl)
theorem x78_2 : Ev L xs ρ 78 2 [l0, l1, l2, l3] st σ r ↔ Ev L xs ρ 78 3 [l0, l1, l2, l3] (.int (0) :: st) σ r := ev_iconst cm_78 dX5_changesInRound_2 (by decide)
theorem x78_3 : Ev L xs ρ 78 3 [l0, l1, l2, l3] (.int x :: st) σ r ↔ Ev L xs ρ 78 4 [l0, l1, some (.int x), l3] st σ r := ev_istore_n cm_78 dX5_changesInRound_3 rfl (Nat.le_of_ble_eq_true rfl)
theorem x78_4 : Ev L xs ρ 78 4 [l0, l1, some (.int x), l3] st σ r ↔ Ev L xs ρ 78 5 [l0, l1, some (.int x), l3] (.int x :: st) σ r := ev_iload_n cm_78 dX5_changesInRound_4 rfl rfl
theorem x78_5 : Ev L xs ρ 78 5 [some (.ref a), l1, l2, l3] st σ r ↔ Ev L xs ρ 78 6 [some (.ref a), l1, l2, l3] (.ref a :: st) σ r := ev_aload_n cm_78 dX5_changesInRound_5 rfl rfl
theorem x78_6 : Ev L xs ρ 78 6 [l0, l1, l2, l3] (.ref a :: st) (n, I, Lm, Rm) r ↔ (a < n ∧ shp a = (0, 5)) ∧ Ev L xs ρ 78 9 [l0, l1, l2, l3] (rfv (Rm a 1) :: st) (n, I, Lm, Rm) r := ev_gtR cm_78 dX5_changesInRound_6 rfl rfl
theorem x78_9 : Ev L xs ρ 78 9 [l0, l1, l2, l3] (.ref a :: st) (n, I, Lm, Rm) r ↔ (a < n ∧ shp a = (0, 2)) ∧ Ev L xs ρ 78 12 [l0, l1, l2, l3] (.int (I a 8) :: st) (n, I, Lm, Rm) r := ev_gtI cm_78 dX5_changesInRound_9 rfl rfl
theorem x78_12 : Ev L xs ρ 78 12 [l0, l1, l2, l3] (.int y :: .int x :: st) σ r ↔ if y ≤ x then Ev L xs ρ 78 67 [l0, l1, l2, l3] st σ r else Ev L xs ρ 78 15 [l0, l1, l2, l3] st σ r := ev_icge cm_78 dX5_changesInRound_12 (by decide)
theorem x78_15 : Ev L xs ρ 78 15 [some (.ref a), l1, l2, l3] st σ r ↔ Ev L xs ρ 78 16 [some (.ref a), l1, l2, l3] (.ref a :: st) σ r := ev_aload_n cm_78 dX5_changesInRound_15 rfl rfl
theorem x78_16 : Ev L xs ρ 78 16 [l0, l1, some (.int x), l3] st σ r ↔ Ev L xs ρ 78 17 [l0, l1, some (.int x), l3] (.int x :: st) σ r := ev_iload_n cm_78 dX5_changesInRound_16 rfl rfl
theorem x78_17 : Ev L xs ρ 78 17 [some (.ref a), l1, l2, l3] st σ r ↔ Ev L xs ρ 78 18 [some (.ref a), l1, l2, l3] (.ref a :: st) σ r := ev_aload_n cm_78 dX5_changesInRound_17 rfl rfl
theorem x78_18 : Ev L xs ρ 78 18 [l0, l1, l2, l3] (.ref a :: st) (n, I, Lm, Rm) r ↔ (a < n ∧ shp a = (0, 5)) ∧ Ev L xs ρ 78 21 [l0, l1, l2, l3] (rfv (Rm a 1) :: st) (n, I, Lm, Rm) r := ev_gtR cm_78 dX5_changesInRound_18 rfl rfl
theorem x78_21 : Ev L xs ρ 78 21 [l0, l1, l2, l3] (.ref a :: st) (n, I, Lm, Rm) r ↔ (a < n ∧ shp a = (0, 2)) ∧ Ev L xs ρ 78 24 [l0, l1, l2, l3] (rfv (Rm a 2) :: st) (n, I, Lm, Rm) r := ev_gtR cm_78 dX5_changesInRound_21 rfl rfl
theorem x78_24 : Ev L xs ρ 78 24 [l0, l1, some (.int x), l3] st σ r ↔ Ev L xs ρ 78 25 [l0, l1, some (.int x), l3] (.int x :: st) σ r := ev_iload_n cm_78 dX5_changesInRound_24 rfl rfl
theorem x78_25 : Ev L xs 4 78 25 [l0, l1, l2, l3] (.int y :: .ref b :: .int x :: .ref a :: []) σ r ↔ ∃ v n2 I2 L2 R2, Em L xs 160 [.ref b, .int y] σ (v, n2, I2, L2, R2) ∧ Ev L xs 4 78 28 [l0, l1, l2, l3] (v.toList ++ (.int x :: .ref a :: [])) (n2, I2, L2, R2) r := ev_cS cm_78 [.ref b, .int y] dX5_changesInRound_25 rfl rfl rfl (Nat.le_of_ble_eq_true rfl) (rka_lt rfl (by decide)) (Nat.le_of_ble_eq_true rfl)
theorem x78_28 : Ev L xs 4 78 28 [l0, l1, l2, l3] (.int y :: .int x :: .ref a :: []) (n, I, Lm, Rm) r ↔ (a < n ∧ shp a = (0, 5)) ∧ ∃ v n2 I2 L2 R2, Em L xs 77 [.ref a, .int x, .int y] (n, I, Lm, Rm) (v, n2, I2, L2, R2) ∧ Ev L xs 4 78 31 [l0, l1, l2, l3] (v.toList ++ []) (n2, I2, L2, R2) r := ev_cV cm_78 [.int x, .int y] dX5_changesInRound_28 rfl rfl rfl rfl (Nat.le_of_ble_eq_true rfl) (rka_lt rfl (by decide)) (Nat.le_of_ble_eq_true rfl)
theorem x78_31 : Ev L xs ρ 78 31 [l0, l1, l2, l3] (.int x :: st) σ r ↔ Ev L xs ρ 78 32 [l0, l1, l2, some (.int x)] st σ r := ev_istore_n cm_78 dX5_changesInRound_31 rfl (Nat.le_of_ble_eq_true rfl)
theorem x78_32 : Ev L xs ρ 78 32 [l0, l1, l2, some (.int x)] st σ r ↔ Ev L xs ρ 78 33 [l0, l1, l2, some (.int x)] (.int x :: st) σ r := ev_iload_n cm_78 dX5_changesInRound_32 rfl rfl
theorem x78_33 : Ev L xs ρ 78 33 [some (.ref a), l1, l2, l3] st σ r ↔ Ev L xs ρ 78 34 [some (.ref a), l1, l2, l3] (.ref a :: st) σ r := ev_aload_n cm_78 dX5_changesInRound_33 rfl rfl
theorem x78_34 : Ev L xs ρ 78 34 [l0, l1, l2, l3] (.ref a :: st) (n, I, Lm, Rm) r ↔ (a < n ∧ shp a = (0, 5)) ∧ Ev L xs ρ 78 37 [l0, l1, l2, l3] (rfv (Rm a 1) :: st) (n, I, Lm, Rm) r := ev_gtR cm_78 dX5_changesInRound_34 rfl rfl
theorem x78_37 : Ev L xs ρ 78 37 [l0, l1, l2, l3] (.ref a :: st) (n, I, Lm, Rm) r ↔ (a < n ∧ shp a = (0, 2)) ∧ Ev L xs ρ 78 40 [l0, l1, l2, l3] (rfv (Rm a 3) :: st) (n, I, Lm, Rm) r := ev_gtR cm_78 dX5_changesInRound_37 rfl rfl
theorem x78_40 : Ev L xs ρ 78 40 [l0, l1, some (.int x), l3] st σ r ↔ Ev L xs ρ 78 41 [l0, l1, some (.int x), l3] (.int x :: st) σ r := ev_iload_n cm_78 dX5_changesInRound_40 rfl rfl
theorem x78_41 : Ev L xs 4 78 41 [l0, l1, l2, l3] (.int y :: .ref a :: .int x :: []) σ r ↔ ∃ v n2 I2 L2 R2, Em L xs 160 [.ref a, .int y] σ (v, n2, I2, L2, R2) ∧ Ev L xs 4 78 44 [l0, l1, l2, l3] (v.toList ++ (.int x :: [])) (n2, I2, L2, R2) r := ev_cS cm_78 [.ref a, .int y] dX5_changesInRound_41 rfl rfl rfl (Nat.le_of_ble_eq_true rfl) (rka_lt rfl (by decide)) (Nat.le_of_ble_eq_true rfl)
theorem x78_44 : Ev L xs ρ 78 44 [l0, l1, l2, l3] (.int y :: .int x :: st) σ r ↔ if x = y then Ev L xs ρ 78 61 [l0, l1, l2, l3] st σ r else Ev L xs ρ 78 47 [l0, l1, l2, l3] st σ r := ev_iceq cm_78 dX5_changesInRound_44 (by decide)
theorem x78_47 : Ev L xs ρ 78 47 [some (.ref a), l1, l2, l3] st σ r ↔ Ev L xs ρ 78 48 [some (.ref a), l1, l2, l3] (.ref a :: st) σ r := ev_aload_n cm_78 dX5_changesInRound_47 rfl rfl
theorem x78_48 : Ev L xs ρ 78 48 [l0, l1, l2, l3] (.ref a :: st) (n, I, Lm, Rm) r ↔ (a < n ∧ shp a = (0, 5)) ∧ Ev L xs ρ 78 51 [l0, l1, l2, l3] (rfv (Rm a 1) :: st) (n, I, Lm, Rm) r := ev_gtR cm_78 dX5_changesInRound_48 rfl rfl
theorem x78_51 : Ev L xs ρ 78 51 [l0, l1, l2, l3] (.ref a :: st) (n, I, Lm, Rm) r ↔ (a < n ∧ shp a = (0, 2)) ∧ Ev L xs ρ 78 54 [l0, l1, l2, l3] (rfv (Rm a 3) :: st) (n, I, Lm, Rm) r := ev_gtR cm_78 dX5_changesInRound_51 rfl rfl
theorem x78_54 : Ev L xs ρ 78 54 [l0, l1, some (.int x), l3] st σ r ↔ Ev L xs ρ 78 55 [l0, l1, some (.int x), l3] (.int x :: st) σ r := ev_iload_n cm_78 dX5_changesInRound_54 rfl rfl
theorem x78_55 : Ev L xs ρ 78 55 [l0, l1, l2, some (.int x)] st σ r ↔ Ev L xs ρ 78 56 [l0, l1, l2, some (.int x)] (.int x :: st) σ r := ev_iload_n cm_78 dX5_changesInRound_55 rfl rfl
theorem x78_56 : Ev L xs 4 78 56 [l0, l1, l2, l3] (.int y :: .int x :: .ref a :: []) σ r ↔ ∃ v n2 I2 L2 R2, Em L xs 161 [.ref a, .int x, .int y] σ (v, n2, I2, L2, R2) ∧ Ev L xs 4 78 59 [l0, l1, l2, l3] (v.toList ++ []) (n2, I2, L2, R2) r := ev_cS cm_78 [.ref a, .int x, .int y] dX5_changesInRound_56 rfl rfl rfl (Nat.le_of_ble_eq_true rfl) (rka_lt rfl (by decide)) (Nat.le_of_ble_eq_true rfl)
theorem x78_59 : Ev L xs ρ 78 59 [l0, l1, l2, l3] st σ r ↔ Ev L xs ρ 78 60 [l0, l1, l2, l3] (.int (1) :: st) σ r := ev_iconst cm_78 dX5_changesInRound_59 (by decide)
theorem x78_60 : Ev L xs ρ 78 60 [l0, l1, l2, l3] (.int x :: st) σ r ↔ Ev L xs ρ 78 61 [l0, some (.int x), l2, l3] st σ r := ev_istore_n cm_78 dX5_changesInRound_60 rfl (Nat.le_of_ble_eq_true rfl)
theorem x78_61 : Ev L xs ρ 78 61 [l0, l1, some (.int x), l3] st σ r ↔ Ev L xs ρ 78 64 [l0, l1, some (.int (x + (1))), l3] st σ r := ev_iinc cm_78 dX5_changesInRound_61 rfl (by decide)
theorem x78_64 : Ev L xs ρ 78 64 [l0, l1, l2, l3] st σ r ↔ Ev L xs ρ 78 4 [l0, l1, l2, l3] st σ r := ev_goto cm_78 dX5_changesInRound_64 (by decide)
theorem x78_67 : Ev L xs ρ 78 67 [l0, some (.int x), l2, l3] st σ r ↔ Ev L xs ρ 78 68 [l0, some (.int x), l2, l3] (.int x :: st) σ r := ev_iload_n cm_78 dX5_changesInRound_67 rfl rfl
theorem x78_68 : Ev L xs ρ 78 68 [l0, l1, l2, l3] [.int x] σ r ↔ (x = 0 ∨ x = 1) ∧ r = (some (.int x), σ) := ev_retz cm_78 dX5_changesInRound_68 rfl
theorem cm_79 : mcd 79 = cX5_settle := rfl
theorem em_79 : Em L xs 79 [.ref a] σ r ↔ Ev L xs 5 79 0 [some (.ref a), none, none, none] [] σ r := Iff.rfl
theorem x79_0 : Ev L xs ρ 79 0 [l0, l1, l2, l3] st σ r ↔ Ev L xs ρ 79 2 [l0, l1, l2, l3] (.int (60) :: st) σ r := ev_bipush cm_79 dX5_settle_0 (by decide)
theorem x79_2 : Ev L xs ρ 79 2 [l0, l1, l2, l3] (.int x :: st) σ r ↔ Ev L xs ρ 79 3 [l0, some (.int x), l2, l3] st σ r := ev_istore_n cm_79 dX5_settle_2 rfl (Nat.le_of_ble_eq_true rfl)
theorem x79_3 : Ev L xs ρ 79 3 [l0, l1, l2, l3] st σ r ↔ Ev L xs ρ 79 4 [l0, l1, l2, l3] (.int (1) :: st) σ r := ev_iconst cm_79 dX5_settle_3 (by decide)
theorem x79_4 : Ev L xs ρ 79 4 [l0, l1, l2, l3] (.int x :: st) σ r ↔ Ev L xs ρ 79 5 [l0, l1, some (.int x), l3] st σ r := ev_istore_n cm_79 dX5_settle_4 rfl (Nat.le_of_ble_eq_true rfl)
theorem x79_5 : Ev L xs ρ 79 5 [l0, l1, some (.int x), l3] st σ r ↔ Ev L xs ρ 79 6 [l0, l1, some (.int x), l3] (.int x :: st) σ r := ev_iload_n cm_79 dX5_settle_5 rfl rfl
theorem x79_6 : Ev L xs ρ 79 6 [l0, some (.int x), l2, l3] st σ r ↔ Ev L xs ρ 79 7 [l0, some (.int x), l2, l3] (.int x :: st) σ r := ev_iload_n cm_79 dX5_settle_6 rfl rfl
theorem x79_7 : Ev L xs ρ 79 7 [l0, l1, l2, l3] (.int y :: .int x :: st) σ r ↔ if y < x then Ev L xs ρ 79 73 [l0, l1, l2, l3] st σ r else Ev L xs ρ 79 10 [l0, l1, l2, l3] st σ r := ev_icgt cm_79 dX5_settle_7 (by decide)
theorem x79_10 : Ev L xs ρ 79 10 [l0, l1, some (.int x), l3] st σ r ↔ Ev L xs ρ 79 11 [l0, l1, some (.int x), l3] (.int x :: st) σ r := ev_iload_n cm_79 dX5_settle_10 rfl rfl
theorem x79_11 : Ev L xs ρ 79 11 [l0, l1, l2, l3] st σ r ↔ Ev L xs ρ 79 13 [l0, l1, l2, l3] (.int (60) :: st) σ r := ev_bipush cm_79 dX5_settle_11 (by decide)
theorem x79_13 : Ev L xs ρ 79 13 [l0, l1, l2, l3] (.int y :: .int x :: st) σ r ↔ if y < x then Ev L xs ρ 79 73 [l0, l1, l2, l3] st σ r else Ev L xs ρ 79 16 [l0, l1, l2, l3] st σ r := ev_icgt cm_79 dX5_settle_13 (by decide)
theorem x79_16 : Ev L xs ρ 79 16 [some (.ref a), l1, l2, l3] st σ r ↔ Ev L xs ρ 79 17 [some (.ref a), l1, l2, l3] (.ref a :: st) σ r := ev_aload_n cm_79 dX5_settle_16 rfl rfl
theorem x79_17 : Ev L xs ρ 79 17 [l0, l1, some (.int x), l3] st σ r ↔ Ev L xs ρ 79 18 [l0, l1, some (.int x), l3] (.int x :: st) σ r := ev_iload_n cm_79 dX5_settle_17 rfl rfl
theorem x79_18 : Ev L xs ρ 79 18 [l0, l1, l2, l3] st σ r ↔ Ev L xs ρ 79 19 [l0, l1, l2, l3] (.int (1) :: st) σ r := ev_iconst cm_79 dX5_settle_18 (by decide)
theorem x79_19 : Ev L xs ρ 79 19 [l0, l1, l2, l3] (.int y :: .int x :: st) σ r ↔ Ev L xs ρ 79 20 [l0, l1, l2, l3] (.int (x - y) :: st) σ r := ev_nx (ev_ex cm_79 dX5_settle_19 rfl rfl)
theorem x79_20 : Ev L xs 5 79 20 [l0, l1, l2, l3] (.int x :: .ref a :: []) (n, I, Lm, Rm) r ↔ (a < n ∧ shp a = (0, 5)) ∧ ∃ v n2 I2 L2 R2, Em L xs 80 [.ref a, .int x] (n, I, Lm, Rm) (v, n2, I2, L2, R2) ∧ Ev L xs 5 79 23 [l0, l1, l2, l3] (v.toList ++ []) (n2, I2, L2, R2) r := ev_cV cm_79 [.int x] dX5_settle_20 rfl rfl rfl rfl (Nat.le_of_ble_eq_true rfl) (rka_lt rfl (by decide)) (Nat.le_of_ble_eq_true rfl)
theorem x79_23 : Ev L xs ρ 79 23 [some (.ref a), l1, l2, l3] st σ r ↔ Ev L xs ρ 79 24 [some (.ref a), l1, l2, l3] (.ref a :: st) σ r := ev_aload_n cm_79 dX5_settle_23 rfl rfl
theorem x79_24 : Ev L xs 5 79 24 [l0, l1, l2, l3] (.ref a :: []) (n, I, Lm, Rm) r ↔ (a < n ∧ shp a = (0, 5)) ∧ ∃ v n2 I2 L2 R2, Em L xs 78 [.ref a] (n, I, Lm, Rm) (v, n2, I2, L2, R2) ∧ Ev L xs 5 79 27 [l0, l1, l2, l3] (v.toList ++ []) (n2, I2, L2, R2) r := ev_cV cm_79 [] dX5_settle_24 rfl rfl rfl rfl (Nat.le_of_ble_eq_true rfl) (rka_lt rfl (by decide)) (Nat.le_of_ble_eq_true rfl)
theorem x79_27 : Ev L xs ρ 79 27 [l0, l1, l2, l3] (.int x :: st) σ r ↔ if x = 0 then Ev L xs ρ 79 30 [l0, l1, l2, l3] st σ r else Ev L xs ρ 79 31 [l0, l1, l2, l3] st σ r := ev_ifne cm_79 dX5_settle_27 (by decide)
theorem x79_30 : Ev L xs ρ 79 30 [l0, l1, l2, l3] [] σ r ↔ r = (none, σ) := ev_retv cm_79 dX5_settle_30 rfl
theorem x79_31 : Ev L xs ρ 79 31 [l0, some (.int x), l2, l3] st σ r ↔ Ev L xs ρ 79 32 [l0, some (.int x), l2, l3] (.int x :: st) σ r := ev_iload_n cm_79 dX5_settle_31 rfl rfl
theorem x79_32 : Ev L xs ρ 79 32 [l0, l1, l2, l3] st σ r ↔ Ev L xs ρ 79 34 [l0, l1, l2, l3] (.int (60) :: st) σ r := ev_bipush cm_79 dX5_settle_32 (by decide)
theorem x79_34 : Ev L xs ρ 79 34 [l0, l1, l2, l3] (.int y :: .int x :: st) σ r ↔ if x = y then Ev L xs ρ 79 37 [l0, l1, l2, l3] st σ r else Ev L xs ρ 79 45 [l0, l1, l2, l3] st σ r := ev_icne cm_79 dX5_settle_34 (by decide)
theorem x79_37 : Ev L xs ρ 79 37 [some (.ref a), l1, l2, l3] st σ r ↔ Ev L xs ρ 79 38 [some (.ref a), l1, l2, l3] (.ref a :: st) σ r := ev_aload_n cm_79 dX5_settle_37 rfl rfl
theorem x79_38 : Ev L xs ρ 79 38 [l0, l1, some (.int x), l3] st σ r ↔ Ev L xs ρ 79 39 [l0, l1, some (.int x), l3] (.int x :: st) σ r := ev_iload_n cm_79 dX5_settle_38 rfl rfl
theorem x79_39 : Ev L xs 5 79 39 [l0, l1, l2, l3] (.int x :: .ref a :: []) (n, I, Lm, Rm) r ↔ (a < n ∧ shp a = (0, 5)) ∧ ∃ v n2 I2 L2 R2, Em L xs 81 [.ref a, .int x] (n, I, Lm, Rm) (v, n2, I2, L2, R2) ∧ Ev L xs 5 79 42 [l0, l1, l2, l3] (v.toList ++ []) (n2, I2, L2, R2) r := ev_cV cm_79 [.int x] dX5_settle_39 rfl rfl rfl rfl (Nat.le_of_ble_eq_true rfl) (rka_lt rfl (by decide)) (Nat.le_of_ble_eq_true rfl)
theorem x79_42 : Ev L xs ρ 79 42 [l0, l1, l2, l3] st σ r ↔ Ev L xs ρ 79 46 [l0, l1, l2, l3] st σ r := ev_goto cm_79 dX5_settle_42 (by decide)
theorem x79_45 : Ev L xs ρ 79 45 [l0, l1, l2, l3] st σ r ↔ Ev L xs ρ 79 46 [l0, l1, l2, l3] (.int (-1) :: st) σ r := ev_iconst cm_79 dX5_settle_45 (by decide)
theorem x79_46 : Ev L xs ρ 79 46 [l0, l1, l2, l3] (.int x :: st) σ r ↔ Ev L xs ρ 79 47 [l0, l1, l2, some (.int x)] st σ r := ev_istore_n cm_79 dX5_settle_46 rfl (Nat.le_of_ble_eq_true rfl)
theorem x79_47 : Ev L xs ρ 79 47 [l0, l1, l2, some (.int x)] st σ r ↔ Ev L xs ρ 79 48 [l0, l1, l2, some (.int x)] (.int x :: st) σ r := ev_iload_n cm_79 dX5_settle_47 rfl rfl
theorem x79_48 : Ev L xs ρ 79 48 [l0, l1, l2, l3] (.int x :: st) σ r ↔ if x < 0 then Ev L xs ρ 79 67 [l0, l1, l2, l3] st σ r else Ev L xs ρ 79 51 [l0, l1, l2, l3] st σ r := ev_iflt cm_79 dX5_settle_48 (by decide)
theorem x79_51 : Ev L xs ρ 79 51 [l0, l1, l2, some (.int x)] st σ r ↔ Ev L xs ρ 79 52 [l0, l1, l2, some (.int x)] (.int x :: st) σ r := ev_iload_n cm_79 dX5_settle_51 rfl rfl
theorem x79_52 : Ev L xs ρ 79 52 [l0, l1, some (.int x), l3] st σ r ↔ Ev L xs ρ 79 53 [l0, l1, some (.int x), l3] (.int x :: st) σ r := ev_iload_n cm_79 dX5_settle_52 rfl rfl
theorem x79_53 : Ev L xs ρ 79 53 [l0, l1, l2, l3] (.int y :: .int x :: st) σ r ↔ if y ≤ x then Ev L xs ρ 79 67 [l0, l1, l2, l3] st σ r else Ev L xs ρ 79 56 [l0, l1, l2, l3] st σ r := ev_icge cm_79 dX5_settle_53 (by decide)
theorem x79_56 : Ev L xs ρ 79 56 [l0, l1, some (.int x), l3] st σ r ↔ Ev L xs ρ 79 57 [l0, l1, some (.int x), l3] (.int x :: st) σ r := ev_iload_n cm_79 dX5_settle_56 rfl rfl
theorem x79_57 : Ev L xs ρ 79 57 [l0, l1, l2, l3] st σ r ↔ Ev L xs ρ 79 59 [l0, l1, l2, l3] (.int (60) :: st) σ r := ev_bipush cm_79 dX5_settle_57 (by decide)
theorem x79_59 : Ev L xs ρ 79 59 [l0, l1, some (.int x), l3] st σ r ↔ Ev L xs ρ 79 60 [l0, l1, some (.int x), l3] (.int x :: st) σ r := ev_iload_n cm_79 dX5_settle_59 rfl rfl
theorem x79_60 : Ev L xs ρ 79 60 [l0, l1, l2, l3] (.int y :: .int x :: st) σ r ↔ Ev L xs ρ 79 61 [l0, l1, l2, l3] (.int (x - y) :: st) σ r := ev_nx (ev_ex cm_79 dX5_settle_60 rfl rfl)
theorem x79_61 : Ev L xs ρ 79 61 [l0, l1, some (.int x), l3] st σ r ↔ Ev L xs ρ 79 62 [l0, l1, some (.int x), l3] (.int x :: st) σ r := ev_iload_n cm_79 dX5_settle_61 rfl rfl
theorem x79_62 : Ev L xs ρ 79 62 [l0, l1, l2, some (.int x)] st σ r ↔ Ev L xs ρ 79 63 [l0, l1, l2, some (.int x)] (.int x :: st) σ r := ev_iload_n cm_79 dX5_settle_62 rfl rfl
theorem x79_63 : Ev L xs ρ 79 63 [l0, l1, l2, l3] (.int y :: .int x :: st) σ r ↔ Ev L xs ρ 79 64 [l0, l1, l2, l3] (.int (x - y) :: st) σ r := ev_nx (ev_ex cm_79 dX5_settle_63 rfl rfl)
theorem x79_64 : Ev L xs ρ 79 64 [l0, l1, l2, l3] (.int y :: .int x :: st) σ r ↔ ¬ y = 0 ∧ Ev L xs ρ 79 65 [l0, l1, l2, l3] (.int (x - x / y * y) :: st) σ r := ev_gn (ev_ex cm_79 dX5_settle_64 rfl rfl)
theorem x79_65 : Ev L xs ρ 79 65 [l0, l1, l2, l3] (.int y :: .int x :: st) σ r ↔ Ev L xs ρ 79 66 [l0, l1, l2, l3] (.int (x + y) :: st) σ r := ev_nx (ev_ex cm_79 dX5_settle_65 rfl rfl)
theorem x79_66 : Ev L xs ρ 79 66 [l0, l1, l2, l3] (.int x :: st) σ r ↔ Ev L xs ρ 79 67 [l0, some (.int x), l2, l3] st σ r := ev_istore_n cm_79 dX5_settle_66 rfl (Nat.le_of_ble_eq_true rfl)
theorem x79_67 : Ev L xs ρ 79 67 [l0, l1, some (.int x), l3] st σ r ↔ Ev L xs ρ 79 70 [l0, l1, some (.int (x + (1))), l3] st σ r := ev_iinc cm_79 dX5_settle_67 rfl (by decide)
theorem x79_70 : Ev L xs ρ 79 70 [l0, l1, l2, l3] st σ r ↔ Ev L xs ρ 79 5 [l0, l1, l2, l3] st σ r := ev_goto cm_79 dX5_settle_70 (by decide)
theorem x79_73 : Ev L xs ρ 79 73 [l0, l1, l2, l3] [] σ r ↔ r = (none, σ) := ev_retv cm_79 dX5_settle_73 rfl
theorem cm_80 : mcd 80 = cX5_noteTrail := rfl
theorem em_80 : Em L xs 80 [.ref a, .int x] σ r ↔ Ev L xs 1 80 0 [some (.ref a), some (.int x), none] [] σ r := Iff.rfl
theorem x80_0 : Ev L xs ρ 80 0 [l0, l1, l2] st σ r ↔ Ev L xs ρ 80 1 [l0, l1, l2] (.int (0) :: st) σ r := ev_iconst cm_80 dX5_noteTrail_0 (by decide)
theorem x80_1 : Ev L xs ρ 80 1 [l0, l1, l2] (.int x :: st) σ r ↔ Ev L xs ρ 80 2 [l0, l1, some (.int x)] st σ r := ev_istore_n cm_80 dX5_noteTrail_1 rfl (Nat.le_of_ble_eq_true rfl)
theorem x80_2 : Ev L xs ρ 80 2 [l0, l1, some (.int x)] st σ r ↔ Ev L xs ρ 80 3 [l0, l1, some (.int x)] (.int x :: st) σ r := ev_iload_n cm_80 dX5_noteTrail_2 rfl rfl
theorem x80_3 : Ev L xs ρ 80 3 [some (.ref a), l1, l2] st σ r ↔ Ev L xs ρ 80 4 [some (.ref a), l1, l2] (.ref a :: st) σ r := ev_aload_n cm_80 dX5_noteTrail_3 rfl rfl
theorem x80_4 : Ev L xs ρ 80 4 [l0, l1, l2] (.ref a :: st) (n, I, Lm, Rm) r ↔ (a < n ∧ shp a = (0, 5)) ∧ Ev L xs ρ 80 7 [l0, l1, l2] (rfv (Rm a 1) :: st) (n, I, Lm, Rm) r := ev_gtR cm_80 dX5_noteTrail_4 rfl rfl
theorem x80_7 : Ev L xs ρ 80 7 [l0, l1, l2] (.ref a :: st) (n, I, Lm, Rm) r ↔ (a < n ∧ shp a = (0, 2)) ∧ Ev L xs ρ 80 10 [l0, l1, l2] (.int (I a 8) :: st) (n, I, Lm, Rm) r := ev_gtI cm_80 dX5_noteTrail_7 rfl rfl
theorem x80_10 : Ev L xs ρ 80 10 [l0, l1, l2] (.int y :: .int x :: st) σ r ↔ if y ≤ x then Ev L xs ρ 80 45 [l0, l1, l2] st σ r else Ev L xs ρ 80 13 [l0, l1, l2] st σ r := ev_icge cm_80 dX5_noteTrail_10 (by decide)
theorem x80_13 : Ev L xs ρ 80 13 [some (.ref a), l1, l2] st σ r ↔ Ev L xs ρ 80 14 [some (.ref a), l1, l2] (.ref a :: st) σ r := ev_aload_n cm_80 dX5_noteTrail_13 rfl rfl
theorem x80_14 : Ev L xs ρ 80 14 [l0, l1, l2] (.ref a :: st) (n, I, Lm, Rm) r ↔ (a < n ∧ shp a = (0, 5)) ∧ Ev L xs ρ 80 17 [l0, l1, l2] (rfv (Rm a 3) :: st) (n, I, Lm, Rm) r := ev_gtR cm_80 dX5_noteTrail_14 rfl rfl
theorem x80_17 : Ev L xs ρ 80 17 [l0, some (.int x), l2] st σ r ↔ Ev L xs ρ 80 18 [l0, some (.int x), l2] (.int x :: st) σ r := ev_iload_n cm_80 dX5_noteTrail_17 rfl rfl
theorem x80_18 : Ev L xs ρ 80 18 [some (.ref a), l1, l2] st σ r ↔ Ev L xs ρ 80 19 [some (.ref a), l1, l2] (.ref a :: st) σ r := ev_aload_n cm_80 dX5_noteTrail_18 rfl rfl
theorem x80_19 : Ev L xs ρ 80 19 [l0, l1, l2] (.ref a :: st) (n, I, Lm, Rm) r ↔ (a < n ∧ shp a = (0, 5)) ∧ Ev L xs ρ 80 22 [l0, l1, l2] (.int (I a 4) :: st) (n, I, Lm, Rm) r := ev_gtI cm_80 dX5_noteTrail_19 rfl rfl
theorem x80_22 : Ev L xs ρ 80 22 [l0, l1, l2] (.int y :: .int x :: st) σ r ↔ Ev L xs ρ 80 23 [l0, l1, l2] (.int (x * y) :: st) σ r := ev_nx (ev_ex cm_80 dX5_noteTrail_22 rfl rfl)
theorem x80_23 : Ev L xs ρ 80 23 [l0, l1, some (.int x)] st σ r ↔ Ev L xs ρ 80 24 [l0, l1, some (.int x)] (.int x :: st) σ r := ev_iload_n cm_80 dX5_noteTrail_23 rfl rfl
theorem x80_24 : Ev L xs ρ 80 24 [l0, l1, l2] (.int y :: .int x :: st) σ r ↔ Ev L xs ρ 80 25 [l0, l1, l2] (.int (x + y) :: st) σ r := ev_nx (ev_ex cm_80 dX5_noteTrail_24 rfl rfl)
theorem x80_25 : Ev L xs ρ 80 25 [some (.ref a), l1, l2] st σ r ↔ Ev L xs ρ 80 26 [some (.ref a), l1, l2] (.ref a :: st) σ r := ev_aload_n cm_80 dX5_noteTrail_25 rfl rfl
theorem x80_26 : Ev L xs ρ 80 26 [l0, l1, l2] (.ref a :: st) (n, I, Lm, Rm) r ↔ (a < n ∧ shp a = (0, 5)) ∧ Ev L xs ρ 80 29 [l0, l1, l2] (rfv (Rm a 1) :: st) (n, I, Lm, Rm) r := ev_gtR cm_80 dX5_noteTrail_26 rfl rfl
theorem x80_29 : Ev L xs ρ 80 29 [l0, l1, l2] (.ref a :: st) (n, I, Lm, Rm) r ↔ (a < n ∧ shp a = (0, 2)) ∧ Ev L xs ρ 80 32 [l0, l1, l2] (rfv (Rm a 3) :: st) (n, I, Lm, Rm) r := ev_gtR cm_80 dX5_noteTrail_29 rfl rfl
theorem x80_32 : Ev L xs ρ 80 32 [l0, l1, some (.int x)] st σ r ↔ Ev L xs ρ 80 33 [l0, l1, some (.int x)] (.int x :: st) σ r := ev_iload_n cm_80 dX5_noteTrail_32 rfl rfl
theorem x80_33 : Ev L xs 1 80 33 [l0, l1, l2] (.int y :: .ref b :: .int x :: .ref a :: []) σ r ↔ ∃ v n2 I2 L2 R2, Em L xs 160 [.ref b, .int y] σ (v, n2, I2, L2, R2) ∧ Ev L xs 1 80 36 [l0, l1, l2] (v.toList ++ (.int x :: .ref a :: [])) (n2, I2, L2, R2) r := ev_cS cm_80 [.ref b, .int y] dX5_noteTrail_33 rfl rfl rfl (Nat.le_of_ble_eq_true rfl) (rka_lt rfl (by decide)) (Nat.le_of_ble_eq_true rfl)
theorem x80_36 : Ev L xs 1 80 36 [l0, l1, l2] (.int y :: .int x :: .ref a :: []) σ r ↔ ∃ v n2 I2 L2 R2, Em L xs 161 [.ref a, .int x, .int y] σ (v, n2, I2, L2, R2) ∧ Ev L xs 1 80 39 [l0, l1, l2] (v.toList ++ []) (n2, I2, L2, R2) r := ev_cS cm_80 [.ref a, .int x, .int y] dX5_noteTrail_36 rfl rfl rfl (Nat.le_of_ble_eq_true rfl) (rka_lt rfl (by decide)) (Nat.le_of_ble_eq_true rfl)
theorem x80_39 : Ev L xs ρ 80 39 [l0, l1, some (.int x)] st σ r ↔ Ev L xs ρ 80 42 [l0, l1, some (.int (x + (1)))] st σ r := ev_iinc cm_80 dX5_noteTrail_39 rfl (by decide)
theorem x80_42 : Ev L xs ρ 80 42 [l0, l1, l2] st σ r ↔ Ev L xs ρ 80 2 [l0, l1, l2] st σ r := ev_goto cm_80 dX5_noteTrail_42 (by decide)
theorem x80_45 : Ev L xs ρ 80 45 [l0, l1, l2] [] σ r ↔ r = (none, σ) := ev_retv cm_80 dX5_noteTrail_45 rfl
theorem cm_81 : mcd 81 = cX5_firstOfTrail := rfl
theorem em_81 : Em L xs 81 [.ref a, .int x] σ r ↔ Ev L xs 2 81 0 [some (.ref a), some (.int x), none] [] σ r := Iff.rfl
theorem x81_0 : Ev L xs ρ 81 0 [l0, l1, l2] st σ r ↔ Ev L xs ρ 81 1 [l0, l1, l2] (.int (0) :: st) σ r := ev_iconst cm_81 dX5_firstOfTrail_0 (by decide)
theorem x81_1 : Ev L xs ρ 81 1 [l0, l1, l2] (.int x :: st) σ r ↔ Ev L xs ρ 81 2 [l0, l1, some (.int x)] st σ r := ev_istore_n cm_81 dX5_firstOfTrail_1 rfl (Nat.le_of_ble_eq_true rfl)
theorem x81_2 : Ev L xs ρ 81 2 [l0, l1, some (.int x)] st σ r ↔ Ev L xs ρ 81 3 [l0, l1, some (.int x)] (.int x :: st) σ r := ev_iload_n cm_81 dX5_firstOfTrail_2 rfl rfl
theorem x81_3 : Ev L xs ρ 81 3 [l0, some (.int x), l2] st σ r ↔ Ev L xs ρ 81 4 [l0, some (.int x), l2] (.int x :: st) σ r := ev_iload_n cm_81 dX5_firstOfTrail_3 rfl rfl
theorem x81_4 : Ev L xs ρ 81 4 [l0, l1, l2] (.int y :: .int x :: st) σ r ↔ if y ≤ x then Ev L xs ρ 81 23 [l0, l1, l2] st σ r else Ev L xs ρ 81 7 [l0, l1, l2] st σ r := ev_icge cm_81 dX5_firstOfTrail_4 (by decide)
theorem x81_7 : Ev L xs ρ 81 7 [some (.ref a), l1, l2] st σ r ↔ Ev L xs ρ 81 8 [some (.ref a), l1, l2] (.ref a :: st) σ r := ev_aload_n cm_81 dX5_firstOfTrail_7 rfl rfl
theorem x81_8 : Ev L xs ρ 81 8 [l0, l1, some (.int x)] st σ r ↔ Ev L xs ρ 81 9 [l0, l1, some (.int x)] (.int x :: st) σ r := ev_iload_n cm_81 dX5_firstOfTrail_8 rfl rfl
theorem x81_9 : Ev L xs 2 81 9 [l0, l1, l2] (.int x :: .ref a :: []) (n, I, Lm, Rm) r ↔ (a < n ∧ shp a = (0, 5)) ∧ ∃ v n2 I2 L2 R2, Em L xs 82 [.ref a, .int x] (n, I, Lm, Rm) (v, n2, I2, L2, R2) ∧ Ev L xs 2 81 12 [l0, l1, l2] (v.toList ++ []) (n2, I2, L2, R2) r := ev_cV cm_81 [.int x] dX5_firstOfTrail_9 rfl rfl rfl rfl (Nat.le_of_ble_eq_true rfl) (rka_lt rfl (by decide)) (Nat.le_of_ble_eq_true rfl)
theorem x81_12 : Ev L xs ρ 81 12 [l0, l1, l2] (.int x :: st) σ r ↔ if x = 0 then Ev L xs ρ 81 17 [l0, l1, l2] st σ r else Ev L xs ρ 81 15 [l0, l1, l2] st σ r := ev_ifeq cm_81 dX5_firstOfTrail_12 (by decide)
theorem x81_15 : Ev L xs ρ 81 15 [l0, l1, some (.int x)] st σ r ↔ Ev L xs ρ 81 16 [l0, l1, some (.int x)] (.int x :: st) σ r := ev_iload_n cm_81 dX5_firstOfTrail_15 rfl rfl
theorem x81_16 : Ev L xs ρ 81 16 [l0, l1, l2] [.int x] σ r ↔ r = (some (.int x), σ) := ev_reti cm_81 dX5_firstOfTrail_16 rfl
theorem x81_17 : Ev L xs ρ 81 17 [l0, l1, some (.int x)] st σ r ↔ Ev L xs ρ 81 20 [l0, l1, some (.int (x + (1)))] st σ r := ev_iinc cm_81 dX5_firstOfTrail_17 rfl (by decide)
theorem x81_20 : Ev L xs ρ 81 20 [l0, l1, l2] st σ r ↔ Ev L xs ρ 81 2 [l0, l1, l2] st σ r := ev_goto cm_81 dX5_firstOfTrail_20 (by decide)
theorem x81_23 : Ev L xs ρ 81 23 [l0, l1, l2] st σ r ↔ Ev L xs ρ 81 24 [l0, l1, l2] (.int (-1) :: st) σ r := ev_iconst cm_81 dX5_firstOfTrail_23 (by decide)
theorem x81_24 : Ev L xs ρ 81 24 [l0, l1, l2] [.int x] σ r ↔ r = (some (.int x), σ) := ev_reti cm_81 dX5_firstOfTrail_24 rfl
theorem cm_82 : mcd 82 = cX5_isOnTrail := rfl
theorem em_82 : Em L xs 82 [.ref a, .int x] σ r ↔ Ev L xs 1 82 0 [some (.ref a), some (.int x), none] [] σ r := Iff.rfl
theorem x82_0 : Ev L xs ρ 82 0 [l0, l1, l2] st σ r ↔ Ev L xs ρ 82 1 [l0, l1, l2] (.int (0) :: st) σ r := ev_iconst cm_82 dX5_isOnTrail_0 (by decide)
theorem x82_1 : Ev L xs ρ 82 1 [l0, l1, l2] (.int x :: st) σ r ↔ Ev L xs ρ 82 2 [l0, l1, some (.int x)] st σ r := ev_istore_n cm_82 dX5_isOnTrail_1 rfl (Nat.le_of_ble_eq_true rfl)
theorem x82_2 : Ev L xs ρ 82 2 [l0, l1, some (.int x)] st σ r ↔ Ev L xs ρ 82 3 [l0, l1, some (.int x)] (.int x :: st) σ r := ev_iload_n cm_82 dX5_isOnTrail_2 rfl rfl
theorem x82_3 : Ev L xs ρ 82 3 [some (.ref a), l1, l2] st σ r ↔ Ev L xs ρ 82 4 [some (.ref a), l1, l2] (.ref a :: st) σ r := ev_aload_n cm_82 dX5_isOnTrail_3 rfl rfl
theorem x82_4 : Ev L xs ρ 82 4 [l0, l1, l2] (.ref a :: st) (n, I, Lm, Rm) r ↔ (a < n ∧ shp a = (0, 5)) ∧ Ev L xs ρ 82 7 [l0, l1, l2] (rfv (Rm a 1) :: st) (n, I, Lm, Rm) r := ev_gtR cm_82 dX5_isOnTrail_4 rfl rfl
theorem x82_7 : Ev L xs ρ 82 7 [l0, l1, l2] (.ref a :: st) (n, I, Lm, Rm) r ↔ (a < n ∧ shp a = (0, 2)) ∧ Ev L xs ρ 82 10 [l0, l1, l2] (.int (I a 8) :: st) (n, I, Lm, Rm) r := ev_gtI cm_82 dX5_isOnTrail_7 rfl rfl
theorem x82_10 : Ev L xs ρ 82 10 [l0, l1, l2] (.int y :: .int x :: st) σ r ↔ if y ≤ x then Ev L xs ρ 82 50 [l0, l1, l2] st σ r else Ev L xs ρ 82 13 [l0, l1, l2] st σ r := ev_icge cm_82 dX5_isOnTrail_10 (by decide)
theorem x82_13 : Ev L xs ρ 82 13 [some (.ref a), l1, l2] st σ r ↔ Ev L xs ρ 82 14 [some (.ref a), l1, l2] (.ref a :: st) σ r := ev_aload_n cm_82 dX5_isOnTrail_13 rfl rfl
theorem x82_14 : Ev L xs ρ 82 14 [l0, l1, l2] (.ref a :: st) (n, I, Lm, Rm) r ↔ (a < n ∧ shp a = (0, 5)) ∧ Ev L xs ρ 82 17 [l0, l1, l2] (rfv (Rm a 3) :: st) (n, I, Lm, Rm) r := ev_gtR cm_82 dX5_isOnTrail_14 rfl rfl
theorem x82_17 : Ev L xs ρ 82 17 [l0, some (.int x), l2] st σ r ↔ Ev L xs ρ 82 18 [l0, some (.int x), l2] (.int x :: st) σ r := ev_iload_n cm_82 dX5_isOnTrail_17 rfl rfl
theorem x82_18 : Ev L xs ρ 82 18 [some (.ref a), l1, l2] st σ r ↔ Ev L xs ρ 82 19 [some (.ref a), l1, l2] (.ref a :: st) σ r := ev_aload_n cm_82 dX5_isOnTrail_18 rfl rfl
theorem x82_19 : Ev L xs ρ 82 19 [l0, l1, l2] (.ref a :: st) (n, I, Lm, Rm) r ↔ (a < n ∧ shp a = (0, 5)) ∧ Ev L xs ρ 82 22 [l0, l1, l2] (.int (I a 4) :: st) (n, I, Lm, Rm) r := ev_gtI cm_82 dX5_isOnTrail_19 rfl rfl
theorem x82_22 : Ev L xs ρ 82 22 [l0, l1, l2] (.int y :: .int x :: st) σ r ↔ Ev L xs ρ 82 23 [l0, l1, l2] (.int (x * y) :: st) σ r := ev_nx (ev_ex cm_82 dX5_isOnTrail_22 rfl rfl)
theorem x82_23 : Ev L xs ρ 82 23 [l0, l1, some (.int x)] st σ r ↔ Ev L xs ρ 82 24 [l0, l1, some (.int x)] (.int x :: st) σ r := ev_iload_n cm_82 dX5_isOnTrail_23 rfl rfl
theorem x82_24 : Ev L xs ρ 82 24 [l0, l1, l2] (.int y :: .int x :: st) σ r ↔ Ev L xs ρ 82 25 [l0, l1, l2] (.int (x + y) :: st) σ r := ev_nx (ev_ex cm_82 dX5_isOnTrail_24 rfl rfl)
theorem x82_25 : Ev L xs 1 82 25 [l0, l1, l2] (.int x :: .ref a :: []) σ r ↔ ∃ v n2 I2 L2 R2, Em L xs 160 [.ref a, .int x] σ (v, n2, I2, L2, R2) ∧ Ev L xs 1 82 28 [l0, l1, l2] (v.toList ++ []) (n2, I2, L2, R2) r := ev_cS cm_82 [.ref a, .int x] dX5_isOnTrail_25 rfl rfl rfl (Nat.le_of_ble_eq_true rfl) (rka_lt rfl (by decide)) (Nat.le_of_ble_eq_true rfl)
theorem x82_28 : Ev L xs ρ 82 28 [some (.ref a), l1, l2] st σ r ↔ Ev L xs ρ 82 29 [some (.ref a), l1, l2] (.ref a :: st) σ r := ev_aload_n cm_82 dX5_isOnTrail_28 rfl rfl
theorem x82_29 : Ev L xs ρ 82 29 [l0, l1, l2] (.ref a :: st) (n, I, Lm, Rm) r ↔ (a < n ∧ shp a = (0, 5)) ∧ Ev L xs ρ 82 32 [l0, l1, l2] (rfv (Rm a 1) :: st) (n, I, Lm, Rm) r := ev_gtR cm_82 dX5_isOnTrail_29 rfl rfl
theorem x82_32 : Ev L xs ρ 82 32 [l0, l1, l2] (.ref a :: st) (n, I, Lm, Rm) r ↔ (a < n ∧ shp a = (0, 2)) ∧ Ev L xs ρ 82 35 [l0, l1, l2] (rfv (Rm a 3) :: st) (n, I, Lm, Rm) r := ev_gtR cm_82 dX5_isOnTrail_32 rfl rfl
theorem x82_35 : Ev L xs ρ 82 35 [l0, l1, some (.int x)] st σ r ↔ Ev L xs ρ 82 36 [l0, l1, some (.int x)] (.int x :: st) σ r := ev_iload_n cm_82 dX5_isOnTrail_35 rfl rfl
theorem x82_36 : Ev L xs 1 82 36 [l0, l1, l2] (.int y :: .ref a :: .int x :: []) σ r ↔ ∃ v n2 I2 L2 R2, Em L xs 160 [.ref a, .int y] σ (v, n2, I2, L2, R2) ∧ Ev L xs 1 82 39 [l0, l1, l2] (v.toList ++ (.int x :: [])) (n2, I2, L2, R2) r := ev_cS cm_82 [.ref a, .int y] dX5_isOnTrail_36 rfl rfl rfl (Nat.le_of_ble_eq_true rfl) (rka_lt rfl (by decide)) (Nat.le_of_ble_eq_true rfl)
theorem x82_39 : Ev L xs ρ 82 39 [l0, l1, l2] (.int y :: .int x :: st) σ r ↔ if x = y then Ev L xs ρ 82 44 [l0, l1, l2] st σ r else Ev L xs ρ 82 42 [l0, l1, l2] st σ r := ev_iceq cm_82 dX5_isOnTrail_39 (by decide)
theorem x82_42 : Ev L xs ρ 82 42 [l0, l1, l2] st σ r ↔ Ev L xs ρ 82 43 [l0, l1, l2] (.int (0) :: st) σ r := ev_iconst cm_82 dX5_isOnTrail_42 (by decide)
theorem x82_43 : Ev L xs ρ 82 43 [l0, l1, l2] [.int x] σ r ↔ (x = 0 ∨ x = 1) ∧ r = (some (.int x), σ) := ev_retz cm_82 dX5_isOnTrail_43 rfl
theorem x82_44 : Ev L xs ρ 82 44 [l0, l1, some (.int x)] st σ r ↔ Ev L xs ρ 82 47 [l0, l1, some (.int (x + (1)))] st σ r := ev_iinc cm_82 dX5_isOnTrail_44 rfl (by decide)
theorem x82_47 : Ev L xs ρ 82 47 [l0, l1, l2] st σ r ↔ Ev L xs ρ 82 2 [l0, l1, l2] st σ r := ev_goto cm_82 dX5_isOnTrail_47 (by decide)
theorem x82_50 : Ev L xs ρ 82 50 [l0, l1, l2] st σ r ↔ Ev L xs ρ 82 51 [l0, l1, l2] (.int (1) :: st) σ r := ev_iconst cm_82 dX5_isOnTrail_50 (by decide)
theorem x82_51 : Ev L xs ρ 82 51 [l0, l1, l2] [.int x] σ r ↔ (x = 0 ∨ x = 1) ∧ r = (some (.int x), σ) := ev_retz cm_82 dX5_isOnTrail_51 rfl
theorem cm_83 : mcd 83 = cX5_wishOf := rfl
theorem em_83 : Em L xs 83 [.ref a, .int x] σ r ↔ Ev L xs 4 83 0 [some (.ref a), some (.int x), none, none, none, none, none] [] σ r := Iff.rfl
theorem x83_0 : Ev L xs ρ 83 0 [some (.ref a), l1, l2, l3, l4, l5, l6] st σ r ↔ Ev L xs ρ 83 1 [some (.ref a), l1, l2, l3, l4, l5, l6] (.ref a :: st) σ r := ev_aload_n cm_83 dX5_wishOf_0 rfl rfl
theorem x83_1 : Ev L xs ρ 83 1 [l0, l1, l2, l3, l4, l5, l6] (.ref a :: st) (n, I, Lm, Rm) r ↔ (a < n ∧ shp a = (0, 5)) ∧ Ev L xs ρ 83 4 [l0, l1, l2, l3, l4, l5, l6] (rfv (Rm a 1) :: st) (n, I, Lm, Rm) r := ev_gtR cm_83 dX5_wishOf_1 rfl rfl
theorem x83_4 : Ev L xs ρ 83 4 [l0, l1, l2, l3, l4, l5, l6] (.ref a :: st) (n, I, Lm, Rm) r ↔ (a < n ∧ shp a = (0, 2)) ∧ Ev L xs ρ 83 7 [l0, l1, l2, l3, l4, l5, l6] (rfv (Rm a 3) :: st) (n, I, Lm, Rm) r := ev_gtR cm_83 dX5_wishOf_4 rfl rfl
theorem x83_7 : Ev L xs ρ 83 7 [l0, some (.int x), l2, l3, l4, l5, l6] st σ r ↔ Ev L xs ρ 83 8 [l0, some (.int x), l2, l3, l4, l5, l6] (.int x :: st) σ r := ev_iload_n cm_83 dX5_wishOf_7 rfl rfl
theorem x83_8 : Ev L xs 4 83 8 [l0, l1, l2, l3, l4, l5, l6] (.int x :: .ref a :: []) σ r ↔ ∃ v n2 I2 L2 R2, Em L xs 160 [.ref a, .int x] σ (v, n2, I2, L2, R2) ∧ Ev L xs 4 83 11 [l0, l1, l2, l3, l4, l5, l6] (v.toList ++ []) (n2, I2, L2, R2) r := ev_cS cm_83 [.ref a, .int x] dX5_wishOf_8 rfl rfl rfl (Nat.le_of_ble_eq_true rfl) (rka_lt rfl (by decide)) (Nat.le_of_ble_eq_true rfl)
theorem x83_11 : Ev L xs ρ 83 11 [l0, l1, l2, l3, l4, l5, l6] (.int x :: st) σ r ↔ Ev L xs ρ 83 12 [l0, l1, some (.int x), l3, l4, l5, l6] st σ r := ev_istore_n cm_83 dX5_wishOf_11 rfl (Nat.le_of_ble_eq_true rfl)
theorem x83_12 : Ev L xs ρ 83 12 [some (.ref a), l1, l2, l3, l4, l5, l6] st σ r ↔ Ev L xs ρ 83 13 [some (.ref a), l1, l2, l3, l4, l5, l6] (.ref a :: st) σ r := ev_aload_n cm_83 dX5_wishOf_12 rfl rfl
theorem x83_13 : Ev L xs ρ 83 13 [l0, l1, l2, l3, l4, l5, l6] (.ref a :: st) (n, I, Lm, Rm) r ↔ (a < n ∧ shp a = (0, 5)) ∧ Ev L xs ρ 83 16 [l0, l1, l2, l3, l4, l5, l6] (rfv (Rm a 1) :: st) (n, I, Lm, Rm) r := ev_gtR cm_83 dX5_wishOf_13 rfl rfl
theorem x83_16 : Ev L xs ρ 83 16 [l0, l1, l2, l3, l4, l5, l6] (.ref a :: st) (n, I, Lm, Rm) r ↔ (a < n ∧ shp a = (0, 2)) ∧ Ev L xs ρ 83 19 [l0, l1, l2, l3, l4, l5, l6] (rfv (Rm a 2) :: st) (n, I, Lm, Rm) r := ev_gtR cm_83 dX5_wishOf_16 rfl rfl
theorem x83_19 : Ev L xs ρ 83 19 [l0, some (.int x), l2, l3, l4, l5, l6] st σ r ↔ Ev L xs ρ 83 20 [l0, some (.int x), l2, l3, l4, l5, l6] (.int x :: st) σ r := ev_iload_n cm_83 dX5_wishOf_19 rfl rfl
theorem x83_20 : Ev L xs 4 83 20 [l0, l1, l2, l3, l4, l5, l6] (.int x :: .ref a :: []) σ r ↔ ∃ v n2 I2 L2 R2, Em L xs 160 [.ref a, .int x] σ (v, n2, I2, L2, R2) ∧ Ev L xs 4 83 23 [l0, l1, l2, l3, l4, l5, l6] (v.toList ++ []) (n2, I2, L2, R2) r := ev_cS cm_83 [.ref a, .int x] dX5_wishOf_20 rfl rfl rfl (Nat.le_of_ble_eq_true rfl) (rka_lt rfl (by decide)) (Nat.le_of_ble_eq_true rfl)
theorem x83_23 : Ev L xs ρ 83 23 [l0, l1, l2, l3, l4, l5, l6] (.int x :: st) σ r ↔ Ev L xs ρ 83 24 [l0, l1, l2, some (.int x), l4, l5, l6] st σ r := ev_istore_n cm_83 dX5_wishOf_23 rfl (Nat.le_of_ble_eq_true rfl)
theorem x83_24 : Ev L xs ρ 83 24 [some (.ref a), l1, l2, l3, l4, l5, l6] st σ r ↔ Ev L xs ρ 83 25 [some (.ref a), l1, l2, l3, l4, l5, l6] (.ref a :: st) σ r := ev_aload_n cm_83 dX5_wishOf_24 rfl rfl
theorem x83_25 : Ev L xs ρ 83 25 [l0, some (.int x), l2, l3, l4, l5, l6] st σ r ↔ Ev L xs ρ 83 26 [l0, some (.int x), l2, l3, l4, l5, l6] (.int x :: st) σ r := ev_iload_n cm_83 dX5_wishOf_25 rfl rfl
theorem x83_26 : Ev L xs ρ 83 26 [l0, l1, some (.int x), l3, l4, l5, l6] st σ r ↔ Ev L xs ρ 83 27 [l0, l1, some (.int x), l3, l4, l5, l6] (.int x :: st) σ r := ev_iload_n cm_83 dX5_wishOf_26 rfl rfl
theorem x83_27 : Ev L xs ρ 83 27 [l0, l1, l2, some (.int x), l4, l5, l6] st σ r ↔ Ev L xs ρ 83 28 [l0, l1, l2, some (.int x), l4, l5, l6] (.int x :: st) σ r := ev_iload_n cm_83 dX5_wishOf_27 rfl rfl
theorem x83_28 : Ev L xs 4 83 28 [l0, l1, l2, l3, l4, l5, l6] (.int z :: .int y :: .int x :: .ref a :: []) (n, I, Lm, Rm) r ↔ (a < n ∧ shp a = (0, 5)) ∧ ∃ v n2 I2 L2 R2, Em L xs 71 [.ref a, .int x, .int y, .int z] (n, I, Lm, Rm) (v, n2, I2, L2, R2) ∧ Ev L xs 4 83 31 [l0, l1, l2, l3, l4, l5, l6] (v.toList ++ []) (n2, I2, L2, R2) r := ev_cV cm_83 [.int x, .int y, .int z] dX5_wishOf_28 rfl rfl rfl rfl (Nat.le_of_ble_eq_true rfl) (rka_lt rfl (by decide)) (Nat.le_of_ble_eq_true rfl)
theorem x83_31 : Ev L xs ρ 83 31 [l0, l1, l2, l3, l4, l5, l6] (.int x :: st) σ r ↔ Ev L xs ρ 83 33 [l0, l1, l2, l3, some (.int x), l5, l6] st σ r := ev_istore cm_83 dX5_wishOf_31 (Nat.le_of_ble_eq_true rfl)
theorem x83_33 : Ev L xs ρ 83 33 [l0, l1, l2, l3, l4, l5, l6] st σ r ↔ Ev L xs ρ 83 34 [l0, l1, l2, l3, l4, l5, l6] (.int (-1) :: st) σ r := ev_iconst cm_83 dX5_wishOf_33 (by decide)
theorem x83_34 : Ev L xs ρ 83 34 [l0, l1, l2, l3, l4, l5, l6] (.int x :: st) σ r ↔ Ev L xs ρ 83 36 [l0, l1, l2, l3, l4, some (.int x), l6] st σ r := ev_istore cm_83 dX5_wishOf_34 (Nat.le_of_ble_eq_true rfl)
theorem x83_36 : Ev L xs ρ 83 36 [l0, l1, l2, l3, l4, some (.int x), l6] st σ r ↔ Ev L xs ρ 83 38 [l0, l1, l2, l3, l4, some (.int x), l6] (.int x :: st) σ r := ev_iload cm_83 dX5_wishOf_36 rfl
theorem x83_38 : Ev L xs ρ 83 38 [some (.ref a), l1, l2, l3, l4, l5, l6] st σ r ↔ Ev L xs ρ 83 39 [some (.ref a), l1, l2, l3, l4, l5, l6] (.ref a :: st) σ r := ev_aload_n cm_83 dX5_wishOf_38 rfl rfl
theorem x83_39 : Ev L xs ρ 83 39 [l0, l1, l2, l3, l4, l5, l6] (.ref a :: st) (n, I, Lm, Rm) r ↔ (a < n ∧ shp a = (0, 5)) ∧ Ev L xs ρ 83 42 [l0, l1, l2, l3, l4, l5, l6] (rfv (Rm a 0) :: st) (n, I, Lm, Rm) r := ev_gtR cm_83 dX5_wishOf_39 rfl rfl
theorem x83_42 : Ev L xs ρ 83 42 [l0, l1, l2, l3, l4, l5, l6] (.ref a :: st) (n, I, Lm, Rm) r ↔ (a < n ∧ shp a = (0, 1)) ∧ Ev L xs ρ 83 45 [l0, l1, l2, l3, l4, l5, l6] (.int (I a 5) :: st) (n, I, Lm, Rm) r := ev_gtI cm_83 dX5_wishOf_42 rfl rfl
theorem x83_45 : Ev L xs ρ 83 45 [l0, l1, l2, l3, l4, l5, l6] (.int y :: .int x :: st) σ r ↔ if y ≤ x then Ev L xs ρ 83 78 [l0, l1, l2, l3, l4, l5, l6] st σ r else Ev L xs ρ 83 48 [l0, l1, l2, l3, l4, l5, l6] st σ r := ev_icge cm_83 dX5_wishOf_45 (by decide)
theorem x83_48 : Ev L xs ρ 83 48 [some (.ref a), l1, l2, l3, l4, l5, l6] st σ r ↔ Ev L xs ρ 83 49 [some (.ref a), l1, l2, l3, l4, l5, l6] (.ref a :: st) σ r := ev_aload_n cm_83 dX5_wishOf_48 rfl rfl
theorem x83_49 : Ev L xs ρ 83 49 [l0, some (.int x), l2, l3, l4, l5, l6] st σ r ↔ Ev L xs ρ 83 50 [l0, some (.int x), l2, l3, l4, l5, l6] (.int x :: st) σ r := ev_iload_n cm_83 dX5_wishOf_49 rfl rfl
theorem x83_50 : Ev L xs ρ 83 50 [l0, l1, some (.int x), l3, l4, l5, l6] st σ r ↔ Ev L xs ρ 83 51 [l0, l1, some (.int x), l3, l4, l5, l6] (.int x :: st) σ r := ev_iload_n cm_83 dX5_wishOf_50 rfl rfl
theorem x83_51 : Ev L xs ρ 83 51 [l0, l1, l2, l3, l4, some (.int x), l6] st σ r ↔ Ev L xs ρ 83 53 [l0, l1, l2, l3, l4, some (.int x), l6] (.int x :: st) σ r := ev_iload cm_83 dX5_wishOf_51 rfl
theorem x83_53 : Ev L xs 4 83 53 [l0, l1, l2, l3, l4, l5, l6] (.int z :: .int y :: .int x :: .ref a :: []) (n, I, Lm, Rm) r ↔ (a < n ∧ shp a = (0, 5)) ∧ ∃ v n2 I2 L2 R2, Em L xs 71 [.ref a, .int x, .int y, .int z] (n, I, Lm, Rm) (v, n2, I2, L2, R2) ∧ Ev L xs 4 83 56 [l0, l1, l2, l3, l4, l5, l6] (v.toList ++ []) (n2, I2, L2, R2) r := ev_cV cm_83 [.int x, .int y, .int z] dX5_wishOf_53 rfl rfl rfl rfl (Nat.le_of_ble_eq_true rfl) (rka_lt rfl (by decide)) (Nat.le_of_ble_eq_true rfl)
theorem x83_56 : Ev L xs ρ 83 56 [l0, l1, l2, l3, l4, l5, l6] (.int x :: st) σ r ↔ Ev L xs ρ 83 58 [l0, l1, l2, l3, l4, l5, some (.int x)] st σ r := ev_istore cm_83 dX5_wishOf_56 (Nat.le_of_ble_eq_true rfl)
theorem x83_58 : Ev L xs ρ 83 58 [l0, l1, l2, l3, l4, l5, some (.int x)] st σ r ↔ Ev L xs ρ 83 60 [l0, l1, l2, l3, l4, l5, some (.int x)] (.int x :: st) σ r := ev_iload cm_83 dX5_wishOf_58 rfl
theorem x83_60 : Ev L xs ρ 83 60 [l0, l1, l2, l3, some (.int x), l5, l6] st σ r ↔ Ev L xs ρ 83 62 [l0, l1, l2, l3, some (.int x), l5, l6] (.int x :: st) σ r := ev_iload cm_83 dX5_wishOf_60 rfl
theorem x83_62 : Ev L xs ρ 83 62 [l0, l1, l2, l3, l4, l5, l6] (.int y :: .int x :: st) σ r ↔ if x ≤ y then Ev L xs ρ 83 72 [l0, l1, l2, l3, l4, l5, l6] st σ r else Ev L xs ρ 83 65 [l0, l1, l2, l3, l4, l5, l6] st σ r := ev_icle cm_83 dX5_wishOf_62 (by decide)
theorem x83_65 : Ev L xs ρ 83 65 [l0, l1, l2, l3, l4, some (.int x), l6] st σ r ↔ Ev L xs ρ 83 67 [l0, l1, l2, l3, l4, some (.int x), l6] (.int x :: st) σ r := ev_iload cm_83 dX5_wishOf_65 rfl
theorem x83_67 : Ev L xs ρ 83 67 [l0, l1, l2, l3, l4, l5, l6] (.int x :: st) σ r ↔ Ev L xs ρ 83 68 [l0, l1, l2, some (.int x), l4, l5, l6] st σ r := ev_istore_n cm_83 dX5_wishOf_67 rfl (Nat.le_of_ble_eq_true rfl)
theorem x83_68 : Ev L xs ρ 83 68 [l0, l1, l2, l3, l4, l5, some (.int x)] st σ r ↔ Ev L xs ρ 83 70 [l0, l1, l2, l3, l4, l5, some (.int x)] (.int x :: st) σ r := ev_iload cm_83 dX5_wishOf_68 rfl
theorem x83_70 : Ev L xs ρ 83 70 [l0, l1, l2, l3, l4, l5, l6] (.int x :: st) σ r ↔ Ev L xs ρ 83 72 [l0, l1, l2, l3, some (.int x), l5, l6] st σ r := ev_istore cm_83 dX5_wishOf_70 (Nat.le_of_ble_eq_true rfl)
theorem x83_72 : Ev L xs ρ 83 72 [l0, l1, l2, l3, l4, some (.int x), l6] st σ r ↔ Ev L xs ρ 83 75 [l0, l1, l2, l3, l4, some (.int (x + (1))), l6] st σ r := ev_iinc cm_83 dX5_wishOf_72 rfl (by decide)
theorem x83_75 : Ev L xs ρ 83 75 [l0, l1, l2, l3, l4, l5, l6] st σ r ↔ Ev L xs ρ 83 36 [l0, l1, l2, l3, l4, l5, l6] st σ r := ev_goto cm_83 dX5_wishOf_75 (by decide)
theorem x83_78 : Ev L xs ρ 83 78 [l0, l1, l2, some (.int x), l4, l5, l6] st σ r ↔ Ev L xs ρ 83 79 [l0, l1, l2, some (.int x), l4, l5, l6] (.int x :: st) σ r := ev_iload_n cm_83 dX5_wishOf_78 rfl rfl
theorem x83_79 : Ev L xs ρ 83 79 [l0, l1, l2, l3, l4, l5, l6] [.int x] σ r ↔ r = (some (.int x), σ) := ev_reti cm_83 dX5_wishOf_79 rfl
theorem cm_84 : mcd 84 = cX5_goesInRound := rfl
theorem em_84 : Em L xs 84 [.ref a] σ r ↔ Ev L xs 5 84 0 [some (.ref a), none, none, none] [] σ r := Iff.rfl
theorem x84_0 : Ev L xs ρ 84 0 [l0, l1, l2, l3] st σ r ↔ Ev L xs ρ 84 1 [l0, l1, l2, l3] (.int (0) :: st) σ r := ev_iconst cm_84 dX5_goesInRound_0 (by decide)
theorem x84_1 : Ev L xs ρ 84 1 [l0, l1, l2, l3] (.int x :: st) σ r ↔ Ev L xs ρ 84 2 [l0, some (.int x), l2, l3] st σ r := ev_istore_n cm_84 dX5_goesInRound_1 rfl (Nat.le_of_ble_eq_true rfl)
theorem x84_2 : Ev L xs ρ 84 2 [l0, l1, l2, l3] st σ r ↔ Ev L xs ρ 84 3 [l0, l1, l2, l3] (.int (0) :: st) σ r := ev_iconst cm_84 dX5_goesInRound_2 (by decide)
theorem x84_3 : Ev L xs ρ 84 3 [l0, l1, l2, l3] (.int x :: st) σ r ↔ Ev L xs ρ 84 4 [l0, l1, some (.int x), l3] st σ r := ev_istore_n cm_84 dX5_goesInRound_3 rfl (Nat.le_of_ble_eq_true rfl)
theorem x84_4 : Ev L xs ρ 84 4 [l0, l1, some (.int x), l3] st σ r ↔ Ev L xs ρ 84 5 [l0, l1, some (.int x), l3] (.int x :: st) σ r := ev_iload_n cm_84 dX5_goesInRound_4 rfl rfl
theorem x84_5 : Ev L xs ρ 84 5 [some (.ref a), l1, l2, l3] st σ r ↔ Ev L xs ρ 84 6 [some (.ref a), l1, l2, l3] (.ref a :: st) σ r := ev_aload_n cm_84 dX5_goesInRound_5 rfl rfl
theorem x84_6 : Ev L xs ρ 84 6 [l0, l1, l2, l3] (.ref a :: st) (n, I, Lm, Rm) r ↔ (a < n ∧ shp a = (0, 5)) ∧ Ev L xs ρ 84 9 [l0, l1, l2, l3] (rfv (Rm a 1) :: st) (n, I, Lm, Rm) r := ev_gtR cm_84 dX5_goesInRound_6 rfl rfl
theorem x84_9 : Ev L xs ρ 84 9 [l0, l1, l2, l3] (.ref a :: st) (n, I, Lm, Rm) r ↔ (a < n ∧ shp a = (0, 2)) ∧ Ev L xs ρ 84 12 [l0, l1, l2, l3] (.int (I a 8) :: st) (n, I, Lm, Rm) r := ev_gtI cm_84 dX5_goesInRound_9 rfl rfl
theorem x84_12 : Ev L xs ρ 84 12 [l0, l1, l2, l3] (.int y :: .int x :: st) σ r ↔ if y ≤ x then Ev L xs ρ 84 56 [l0, l1, l2, l3] st σ r else Ev L xs ρ 84 15 [l0, l1, l2, l3] st σ r := ev_icge cm_84 dX5_goesInRound_12 (by decide)
theorem x84_15 : Ev L xs ρ 84 15 [some (.ref a), l1, l2, l3] st σ r ↔ Ev L xs ρ 84 16 [some (.ref a), l1, l2, l3] (.ref a :: st) σ r := ev_aload_n cm_84 dX5_goesInRound_15 rfl rfl
theorem x84_16 : Ev L xs ρ 84 16 [l0, l1, some (.int x), l3] st σ r ↔ Ev L xs ρ 84 17 [l0, l1, some (.int x), l3] (.int x :: st) σ r := ev_iload_n cm_84 dX5_goesInRound_16 rfl rfl
theorem x84_17 : Ev L xs 5 84 17 [l0, l1, l2, l3] (.int x :: .ref a :: []) (n, I, Lm, Rm) r ↔ (a < n ∧ shp a = (0, 5)) ∧ ∃ v n2 I2 L2 R2, Em L xs 83 [.ref a, .int x] (n, I, Lm, Rm) (v, n2, I2, L2, R2) ∧ Ev L xs 5 84 20 [l0, l1, l2, l3] (v.toList ++ []) (n2, I2, L2, R2) r := ev_cV cm_84 [.int x] dX5_goesInRound_17 rfl rfl rfl rfl (Nat.le_of_ble_eq_true rfl) (rka_lt rfl (by decide)) (Nat.le_of_ble_eq_true rfl)
theorem x84_20 : Ev L xs ρ 84 20 [l0, l1, l2, l3] (.int x :: st) σ r ↔ Ev L xs ρ 84 21 [l0, l1, l2, some (.int x)] st σ r := ev_istore_n cm_84 dX5_goesInRound_20 rfl (Nat.le_of_ble_eq_true rfl)
theorem x84_21 : Ev L xs ρ 84 21 [l0, l1, l2, some (.int x)] st σ r ↔ Ev L xs ρ 84 22 [l0, l1, l2, some (.int x)] (.int x :: st) σ r := ev_iload_n cm_84 dX5_goesInRound_21 rfl rfl
theorem x84_22 : Ev L xs ρ 84 22 [some (.ref a), l1, l2, l3] st σ r ↔ Ev L xs ρ 84 23 [some (.ref a), l1, l2, l3] (.ref a :: st) σ r := ev_aload_n cm_84 dX5_goesInRound_22 rfl rfl
theorem x84_23 : Ev L xs ρ 84 23 [l0, l1, l2, l3] (.ref a :: st) (n, I, Lm, Rm) r ↔ (a < n ∧ shp a = (0, 5)) ∧ Ev L xs ρ 84 26 [l0, l1, l2, l3] (rfv (Rm a 1) :: st) (n, I, Lm, Rm) r := ev_gtR cm_84 dX5_goesInRound_23 rfl rfl
theorem x84_26 : Ev L xs ρ 84 26 [l0, l1, l2, l3] (.ref a :: st) (n, I, Lm, Rm) r ↔ (a < n ∧ shp a = (0, 2)) ∧ Ev L xs ρ 84 29 [l0, l1, l2, l3] (rfv (Rm a 2) :: st) (n, I, Lm, Rm) r := ev_gtR cm_84 dX5_goesInRound_26 rfl rfl
theorem x84_29 : Ev L xs ρ 84 29 [l0, l1, some (.int x), l3] st σ r ↔ Ev L xs ρ 84 30 [l0, l1, some (.int x), l3] (.int x :: st) σ r := ev_iload_n cm_84 dX5_goesInRound_29 rfl rfl
theorem x84_30 : Ev L xs 5 84 30 [l0, l1, l2, l3] (.int y :: .ref a :: .int x :: []) σ r ↔ ∃ v n2 I2 L2 R2, Em L xs 160 [.ref a, .int y] σ (v, n2, I2, L2, R2) ∧ Ev L xs 5 84 33 [l0, l1, l2, l3] (v.toList ++ (.int x :: [])) (n2, I2, L2, R2) r := ev_cS cm_84 [.ref a, .int y] dX5_goesInRound_30 rfl rfl rfl (Nat.le_of_ble_eq_true rfl) (rka_lt rfl (by decide)) (Nat.le_of_ble_eq_true rfl)
theorem x84_33 : Ev L xs ρ 84 33 [l0, l1, l2, l3] (.int y :: .int x :: st) σ r ↔ if x = y then Ev L xs ρ 84 50 [l0, l1, l2, l3] st σ r else Ev L xs ρ 84 36 [l0, l1, l2, l3] st σ r := ev_iceq cm_84 dX5_goesInRound_33 (by decide)
theorem x84_36 : Ev L xs ρ 84 36 [some (.ref a), l1, l2, l3] st σ r ↔ Ev L xs ρ 84 37 [some (.ref a), l1, l2, l3] (.ref a :: st) σ r := ev_aload_n cm_84 dX5_goesInRound_36 rfl rfl
theorem x84_37 : Ev L xs ρ 84 37 [l0, l1, l2, l3] (.ref a :: st) (n, I, Lm, Rm) r ↔ (a < n ∧ shp a = (0, 5)) ∧ Ev L xs ρ 84 40 [l0, l1, l2, l3] (rfv (Rm a 1) :: st) (n, I, Lm, Rm) r := ev_gtR cm_84 dX5_goesInRound_37 rfl rfl
theorem x84_40 : Ev L xs ρ 84 40 [l0, l1, l2, l3] (.ref a :: st) (n, I, Lm, Rm) r ↔ (a < n ∧ shp a = (0, 2)) ∧ Ev L xs ρ 84 43 [l0, l1, l2, l3] (rfv (Rm a 2) :: st) (n, I, Lm, Rm) r := ev_gtR cm_84 dX5_goesInRound_40 rfl rfl
theorem x84_43 : Ev L xs ρ 84 43 [l0, l1, some (.int x), l3] st σ r ↔ Ev L xs ρ 84 44 [l0, l1, some (.int x), l3] (.int x :: st) σ r := ev_iload_n cm_84 dX5_goesInRound_43 rfl rfl
theorem x84_44 : Ev L xs ρ 84 44 [l0, l1, l2, some (.int x)] st σ r ↔ Ev L xs ρ 84 45 [l0, l1, l2, some (.int x)] (.int x :: st) σ r := ev_iload_n cm_84 dX5_goesInRound_44 rfl rfl
theorem x84_45 : Ev L xs 5 84 45 [l0, l1, l2, l3] (.int y :: .int x :: .ref a :: []) σ r ↔ ∃ v n2 I2 L2 R2, Em L xs 161 [.ref a, .int x, .int y] σ (v, n2, I2, L2, R2) ∧ Ev L xs 5 84 48 [l0, l1, l2, l3] (v.toList ++ []) (n2, I2, L2, R2) r := ev_cS cm_84 [.ref a, .int x, .int y] dX5_goesInRound_45 rfl rfl rfl (Nat.le_of_ble_eq_true rfl) (rka_lt rfl (by decide)) (Nat.le_of_ble_eq_true rfl)
theorem x84_48 : Ev L xs ρ 84 48 [l0, l1, l2, l3] st σ r ↔ Ev L xs ρ 84 49 [l0, l1, l2, l3] (.int (1) :: st) σ r := ev_iconst cm_84 dX5_goesInRound_48 (by decide)
theorem x84_49 : Ev L xs ρ 84 49 [l0, l1, l2, l3] (.int x :: st) σ r ↔ Ev L xs ρ 84 50 [l0, some (.int x), l2, l3] st σ r := ev_istore_n cm_84 dX5_goesInRound_49 rfl (Nat.le_of_ble_eq_true rfl)
theorem x84_50 : Ev L xs ρ 84 50 [l0, l1, some (.int x), l3] st σ r ↔ Ev L xs ρ 84 53 [l0, l1, some (.int (x + (1))), l3] st σ r := ev_iinc cm_84 dX5_goesInRound_50 rfl (by decide)
theorem x84_53 : Ev L xs ρ 84 53 [l0, l1, l2, l3] st σ r ↔ Ev L xs ρ 84 4 [l0, l1, l2, l3] st σ r := ev_goto cm_84 dX5_goesInRound_53 (by decide)
theorem x84_56 : Ev L xs ρ 84 56 [l0, some (.int x), l2, l3] st σ r ↔ Ev L xs ρ 84 57 [l0, some (.int x), l2, l3] (.int x :: st) σ r := ev_iload_n cm_84 dX5_goesInRound_56 rfl rfl
theorem x84_57 : Ev L xs ρ 84 57 [l0, l1, l2, l3] [.int x] σ r ↔ (x = 0 ∨ x = 1) ∧ r = (some (.int x), σ) := ev_retz cm_84 dX5_goesInRound_57 rfl
theorem cm_85 : mcd 85 = cX5_nextToLeave := rfl
theorem em_85 : Em L xs 85 [.ref a, .int x] σ r ↔ Ev L xs 5 85 0 [some (.ref a), some (.int x), none, none, none, none] [] σ r := Iff.rfl
theorem x85_0 : Ev L xs ρ 85 0 [l0, l1, l2, l3, l4, l5] st σ r ↔ Ev L xs ρ 85 1 [l0, l1, l2, l3, l4, l5] (.int (-1) :: st) σ r := ev_iconst cm_85 dX5_nextToLeave_0 (by decide)
theorem x85_1 : Ev L xs ρ 85 1 [l0, l1, l2, l3, l4, l5] (.int x :: st) σ r ↔ Ev L xs ρ 85 2 [l0, l1, some (.int x), l3, l4, l5] st σ r := ev_istore_n cm_85 dX5_nextToLeave_1 rfl (Nat.le_of_ble_eq_true rfl)
theorem x85_2 : Ev L xs ρ 85 2 [l0, l1, l2, l3, l4, l5] st σ r ↔ Ev L xs ρ 85 3 [l0, l1, l2, l3, l4, l5] (.int (0) :: st) σ r := ev_iconst cm_85 dX5_nextToLeave_2 (by decide)
theorem x85_3 : Ev L xs ρ 85 3 [l0, l1, l2, l3, l4, l5] (.int x :: st) σ r ↔ Ev L xs ρ 85 4 [l0, l1, l2, some (.int x), l4, l5] st σ r := ev_istore_n cm_85 dX5_nextToLeave_3 rfl (Nat.le_of_ble_eq_true rfl)
theorem x85_4 : Ev L xs ρ 85 4 [l0, l1, l2, l3, l4, l5] st σ r ↔ Ev L xs ρ 85 5 [l0, l1, l2, l3, l4, l5] (.int (0) :: st) σ r := ev_iconst cm_85 dX5_nextToLeave_4 (by decide)
theorem x85_5 : Ev L xs ρ 85 5 [l0, l1, l2, l3, l4, l5] (.int x :: st) σ r ↔ Ev L xs ρ 85 7 [l0, l1, l2, l3, some (.int x), l5] st σ r := ev_istore cm_85 dX5_nextToLeave_5 (Nat.le_of_ble_eq_true rfl)
theorem x85_7 : Ev L xs ρ 85 7 [l0, l1, l2, l3, some (.int x), l5] st σ r ↔ Ev L xs ρ 85 9 [l0, l1, l2, l3, some (.int x), l5] (.int x :: st) σ r := ev_iload cm_85 dX5_nextToLeave_7 rfl
theorem x85_9 : Ev L xs ρ 85 9 [some (.ref a), l1, l2, l3, l4, l5] st σ r ↔ Ev L xs ρ 85 10 [some (.ref a), l1, l2, l3, l4, l5] (.ref a :: st) σ r := ev_aload_n cm_85 dX5_nextToLeave_9 rfl rfl
theorem x85_10 : Ev L xs ρ 85 10 [l0, l1, l2, l3, l4, l5] (.ref a :: st) (n, I, Lm, Rm) r ↔ (a < n ∧ shp a = (0, 5)) ∧ Ev L xs ρ 85 13 [l0, l1, l2, l3, l4, l5] (rfv (Rm a 1) :: st) (n, I, Lm, Rm) r := ev_gtR cm_85 dX5_nextToLeave_10 rfl rfl
theorem x85_13 : Ev L xs ρ 85 13 [l0, l1, l2, l3, l4, l5] (.ref a :: st) (n, I, Lm, Rm) r ↔ (a < n ∧ shp a = (0, 2)) ∧ Ev L xs ρ 85 16 [l0, l1, l2, l3, l4, l5] (.int (I a 8) :: st) (n, I, Lm, Rm) r := ev_gtI cm_85 dX5_nextToLeave_13 rfl rfl
theorem x85_16 : Ev L xs ρ 85 16 [l0, l1, l2, l3, l4, l5] (.int y :: .int x :: st) σ r ↔ if y ≤ x then Ev L xs ρ 85 76 [l0, l1, l2, l3, l4, l5] st σ r else Ev L xs ρ 85 19 [l0, l1, l2, l3, l4, l5] st σ r := ev_icge cm_85 dX5_nextToLeave_16 (by decide)
theorem x85_19 : Ev L xs ρ 85 19 [some (.ref a), l1, l2, l3, l4, l5] st σ r ↔ Ev L xs ρ 85 20 [some (.ref a), l1, l2, l3, l4, l5] (.ref a :: st) σ r := ev_aload_n cm_85 dX5_nextToLeave_19 rfl rfl
theorem x85_20 : Ev L xs ρ 85 20 [l0, l1, l2, l3, l4, l5] (.ref a :: st) (n, I, Lm, Rm) r ↔ (a < n ∧ shp a = (0, 5)) ∧ Ev L xs ρ 85 23 [l0, l1, l2, l3, l4, l5] (rfv (Rm a 1) :: st) (n, I, Lm, Rm) r := ev_gtR cm_85 dX5_nextToLeave_20 rfl rfl
theorem x85_23 : Ev L xs ρ 85 23 [l0, l1, l2, l3, l4, l5] (.ref a :: st) (n, I, Lm, Rm) r ↔ (a < n ∧ shp a = (0, 2)) ∧ Ev L xs ρ 85 26 [l0, l1, l2, l3, l4, l5] (rfv (Rm a 2) :: st) (n, I, Lm, Rm) r := ev_gtR cm_85 dX5_nextToLeave_23 rfl rfl
theorem x85_26 : Ev L xs ρ 85 26 [l0, l1, l2, l3, some (.int x), l5] st σ r ↔ Ev L xs ρ 85 28 [l0, l1, l2, l3, some (.int x), l5] (.int x :: st) σ r := ev_iload cm_85 dX5_nextToLeave_26 rfl
theorem x85_28 : Ev L xs 5 85 28 [l0, l1, l2, l3, l4, l5] (.int x :: .ref a :: []) σ r ↔ ∃ v n2 I2 L2 R2, Em L xs 160 [.ref a, .int x] σ (v, n2, I2, L2, R2) ∧ Ev L xs 5 85 31 [l0, l1, l2, l3, l4, l5] (v.toList ++ []) (n2, I2, L2, R2) r := ev_cS cm_85 [.ref a, .int x] dX5_nextToLeave_28 rfl rfl rfl (Nat.le_of_ble_eq_true rfl) (rka_lt rfl (by decide)) (Nat.le_of_ble_eq_true rfl)
theorem x85_31 : Ev L xs ρ 85 31 [l0, some (.int x), l2, l3, l4, l5] st σ r ↔ Ev L xs ρ 85 32 [l0, some (.int x), l2, l3, l4, l5] (.int x :: st) σ r := ev_iload_n cm_85 dX5_nextToLeave_31 rfl rfl
theorem x85_32 : Ev L xs ρ 85 32 [l0, l1, l2, l3, l4, l5] (.int y :: .int x :: st) σ r ↔ if x = y then Ev L xs ρ 85 35 [l0, l1, l2, l3, l4, l5] st σ r else Ev L xs ρ 85 70 [l0, l1, l2, l3, l4, l5] st σ r := ev_icne cm_85 dX5_nextToLeave_32 (by decide)
theorem x85_35 : Ev L xs ρ 85 35 [some (.ref a), l1, l2, l3, l4, l5] st σ r ↔ Ev L xs ρ 85 36 [some (.ref a), l1, l2, l3, l4, l5] (.ref a :: st) σ r := ev_aload_n cm_85 dX5_nextToLeave_35 rfl rfl
theorem x85_36 : Ev L xs ρ 85 36 [l0, l1, l2, l3, some (.int x), l5] st σ r ↔ Ev L xs ρ 85 38 [l0, l1, l2, l3, some (.int x), l5] (.int x :: st) σ r := ev_iload cm_85 dX5_nextToLeave_36 rfl
theorem x85_38 : Ev L xs ρ 85 38 [some (.ref a), l1, l2, l3, l4, l5] st σ r ↔ Ev L xs ρ 85 39 [some (.ref a), l1, l2, l3, l4, l5] (.ref a :: st) σ r := ev_aload_n cm_85 dX5_nextToLeave_38 rfl rfl
theorem x85_39 : Ev L xs ρ 85 39 [l0, l1, l2, l3, some (.int x), l5] st σ r ↔ Ev L xs ρ 85 41 [l0, l1, l2, l3, some (.int x), l5] (.int x :: st) σ r := ev_iload cm_85 dX5_nextToLeave_39 rfl
theorem x85_41 : Ev L xs ρ 85 41 [l0, l1, l2, l3, l4, l5] st σ r ↔ Ev L xs ρ 85 42 [l0, l1, l2, l3, l4, l5] (.int (-1) :: st) σ r := ev_iconst cm_85 dX5_nextToLeave_41 (by decide)
theorem x85_42 : Ev L xs 5 85 42 [l0, l1, l2, l3, l4, l5] (.int z :: .int y :: .ref b :: .int x :: .ref a :: []) (n, I, Lm, Rm) r ↔ (b < n ∧ shp b = (0, 5)) ∧ ∃ v n2 I2 L2 R2, Em L xs 77 [.ref b, .int y, .int z] (n, I, Lm, Rm) (v, n2, I2, L2, R2) ∧ Ev L xs 5 85 45 [l0, l1, l2, l3, l4, l5] (v.toList ++ (.int x :: .ref a :: [])) (n2, I2, L2, R2) r := ev_cV cm_85 [.int y, .int z] dX5_nextToLeave_42 rfl rfl rfl rfl (Nat.le_of_ble_eq_true rfl) (rka_lt rfl (by decide)) (Nat.le_of_ble_eq_true rfl)
theorem x85_45 : Ev L xs ρ 85 45 [l0, l1, l2, l3, l4, l5] st σ r ↔ Ev L xs ρ 85 46 [l0, l1, l2, l3, l4, l5] (.int (-1) :: st) σ r := ev_iconst cm_85 dX5_nextToLeave_45 (by decide)
theorem x85_46 : Ev L xs 5 85 46 [l0, l1, l2, l3, l4, l5] (.int z :: .int y :: .int x :: .ref a :: []) (n, I, Lm, Rm) r ↔ (a < n ∧ shp a = (0, 5)) ∧ ∃ v n2 I2 L2 R2, Em L xs 71 [.ref a, .int x, .int y, .int z] (n, I, Lm, Rm) (v, n2, I2, L2, R2) ∧ Ev L xs 5 85 49 [l0, l1, l2, l3, l4, l5] (v.toList ++ []) (n2, I2, L2, R2) r := ev_cV cm_85 [.int x, .int y, .int z] dX5_nextToLeave_46 rfl rfl rfl rfl (Nat.le_of_ble_eq_true rfl) (rka_lt rfl (by decide)) (Nat.le_of_ble_eq_true rfl)
theorem x85_49 : Ev L xs ρ 85 49 [some (.ref a), l1, l2, l3, l4, l5] st σ r ↔ Ev L xs ρ 85 50 [some (.ref a), l1, l2, l3, l4, l5] (.ref a :: st) σ r := ev_aload_n cm_85 dX5_nextToLeave_49 rfl rfl
theorem x85_50 : Ev L xs ρ 85 50 [l0, l1, l2, l3, some (.int x), l5] st σ r ↔ Ev L xs ρ 85 52 [l0, l1, l2, l3, some (.int x), l5] (.int x :: st) σ r := ev_iload cm_85 dX5_nextToLeave_50 rfl
theorem x85_52 : Ev L xs 5 85 52 [l0, l1, l2, l3, l4, l5] (.int y :: .ref a :: .int x :: []) (n, I, Lm, Rm) r ↔ (a < n ∧ shp a = (0, 5)) ∧ ∃ v n2 I2 L2 R2, Em L xs 72 [.ref a, .int y] (n, I, Lm, Rm) (v, n2, I2, L2, R2) ∧ Ev L xs 5 85 55 [l0, l1, l2, l3, l4, l5] (v.toList ++ (.int x :: [])) (n2, I2, L2, R2) r := ev_cV cm_85 [.int y] dX5_nextToLeave_52 rfl rfl rfl rfl (Nat.le_of_ble_eq_true rfl) (rka_lt rfl (by decide)) (Nat.le_of_ble_eq_true rfl)
theorem x85_55 : Ev L xs ρ 85 55 [l0, l1, l2, l3, l4, l5] (.int y :: .int x :: st) σ r ↔ Ev L xs ρ 85 56 [l0, l1, l2, l3, l4, l5] (.int (x - y) :: st) σ r := ev_nx (ev_ex cm_85 dX5_nextToLeave_55 rfl rfl)
theorem x85_56 : Ev L xs ρ 85 56 [l0, l1, l2, l3, l4, l5] (.int x :: st) σ r ↔ Ev L xs ρ 85 58 [l0, l1, l2, l3, l4, some (.int x)] st σ r := ev_istore cm_85 dX5_nextToLeave_56 (Nat.le_of_ble_eq_true rfl)
theorem x85_58 : Ev L xs ρ 85 58 [l0, l1, l2, l3, l4, some (.int x)] st σ r ↔ Ev L xs ρ 85 60 [l0, l1, l2, l3, l4, some (.int x)] (.int x :: st) σ r := ev_iload cm_85 dX5_nextToLeave_58 rfl
theorem x85_60 : Ev L xs ρ 85 60 [l0, l1, l2, some (.int x), l4, l5] st σ r ↔ Ev L xs ρ 85 61 [l0, l1, l2, some (.int x), l4, l5] (.int x :: st) σ r := ev_iload_n cm_85 dX5_nextToLeave_60 rfl rfl
theorem x85_61 : Ev L xs ρ 85 61 [l0, l1, l2, l3, l4, l5] (.int y :: .int x :: st) σ r ↔ if x ≤ y then Ev L xs ρ 85 70 [l0, l1, l2, l3, l4, l5] st σ r else Ev L xs ρ 85 64 [l0, l1, l2, l3, l4, l5] st σ r := ev_icle cm_85 dX5_nextToLeave_61 (by decide)
theorem x85_64 : Ev L xs ρ 85 64 [l0, l1, l2, l3, some (.int x), l5] st σ r ↔ Ev L xs ρ 85 66 [l0, l1, l2, l3, some (.int x), l5] (.int x :: st) σ r := ev_iload cm_85 dX5_nextToLeave_64 rfl
theorem x85_66 : Ev L xs ρ 85 66 [l0, l1, l2, l3, l4, l5] (.int x :: st) σ r ↔ Ev L xs ρ 85 67 [l0, l1, some (.int x), l3, l4, l5] st σ r := ev_istore_n cm_85 dX5_nextToLeave_66 rfl (Nat.le_of_ble_eq_true rfl)
theorem x85_67 : Ev L xs ρ 85 67 [l0, l1, l2, l3, l4, some (.int x)] st σ r ↔ Ev L xs ρ 85 69 [l0, l1, l2, l3, l4, some (.int x)] (.int x :: st) σ r := ev_iload cm_85 dX5_nextToLeave_67 rfl
theorem x85_69 : Ev L xs ρ 85 69 [l0, l1, l2, l3, l4, l5] (.int x :: st) σ r ↔ Ev L xs ρ 85 70 [l0, l1, l2, some (.int x), l4, l5] st σ r := ev_istore_n cm_85 dX5_nextToLeave_69 rfl (Nat.le_of_ble_eq_true rfl)
theorem x85_70 : Ev L xs ρ 85 70 [l0, l1, l2, l3, some (.int x), l5] st σ r ↔ Ev L xs ρ 85 73 [l0, l1, l2, l3, some (.int (x + (1))), l5] st σ r := ev_iinc cm_85 dX5_nextToLeave_70 rfl (by decide)
theorem x85_73 : Ev L xs ρ 85 73 [l0, l1, l2, l3, l4, l5] st σ r ↔ Ev L xs ρ 85 7 [l0, l1, l2, l3, l4, l5] st σ r := ev_goto cm_85 dX5_nextToLeave_73 (by decide)
theorem x85_76 : Ev L xs ρ 85 76 [l0, l1, some (.int x), l3, l4, l5] st σ r ↔ Ev L xs ρ 85 77 [l0, l1, some (.int x), l3, l4, l5] (.int x :: st) σ r := ev_iload_n cm_85 dX5_nextToLeave_76 rfl rfl
theorem x85_77 : Ev L xs ρ 85 77 [l0, l1, l2, l3, l4, l5] [.int x] σ r ↔ r = (some (.int x), σ) := ev_reti cm_85 dX5_nextToLeave_77 rfl
theorem cm_86 : mcd 86 = cX6_init := rfl
theorem em_86 : Em L xs 86 [.ref a] σ r ↔ Ev L xs 0 86 0 [some (.ref a)] [] σ r := Iff.rfl
theorem x86_0 : Ev L xs ρ 86 0 [some (.ref a)] st σ r ↔ Ev L xs ρ 86 1 [some (.ref a)] (.ref a :: st) σ r := ev_aload_n cm_86 dX6_init_0 rfl rfl
theorem x86_1 : Ev L xs ρ 86 1 [l0] (.ref a :: []) σ r ↔ Ev L xs ρ 86 4 [l0] [] σ r := ev_oi cm_86 dX6_init_1 rfl (Nat.le_of_ble_eq_true rfl)
theorem x86_4 : Ev L xs ρ 86 4 [some (.ref a)] st σ r ↔ Ev L xs ρ 86 5 [some (.ref a)] (.ref a :: st) σ r := ev_aload_n cm_86 dX6_init_4 rfl rfl
theorem x86_5 : Ev L xs ρ 86 5 [l0] st σ r ↔ Ev L xs ρ 86 7 [l0] (.int (6) :: st) σ r := ev_bipush cm_86 dX6_init_5 (by decide)
theorem x86_7 : Ev L xs ρ 86 7 [l0] (.int x :: st) (n, I, Lm, Rm) r ↔ ((n < NNN ∧ (shp n).1 = 1) ∧ (0 ≤ x.toInt ∧ x.toInt = (shp n).2)) ∧ Ev L xs ρ 86 9 [l0] (.ref n :: st) (n + 1, zr2 I n 0, zr2 Lm n 0, zr2 Rm n 0) r := ev_nwi cm_86 dX6_init_7
theorem x86_9 : Ev L xs ρ 86 9 [l0] (.ref b :: .ref a :: st) (n, I, Lm, Rm) r ↔ (a < n ∧ shp a = (0, 6)) ∧ Ev L xs ρ 86 12 [l0] st (n, I, Lm, up2 Rm a 0 (b + 1)) r := ev_ptR cm_86 dX6_init_9 rfl rfl (Or.inr ⟨rfl, rfl⟩)
theorem x86_12 : Ev L xs ρ 86 12 [some (.ref a)] st σ r ↔ Ev L xs ρ 86 13 [some (.ref a)] (.ref a :: st) σ r := ev_aload_n cm_86 dX6_init_12 rfl rfl
theorem x86_13 : Ev L xs ρ 86 13 [l0] st σ r ↔ Ev L xs ρ 86 15 [l0] (.int (6) :: st) σ r := ev_bipush cm_86 dX6_init_13 (by decide)
theorem x86_15 : Ev L xs ρ 86 15 [l0] (.int x :: st) (n, I, Lm, Rm) r ↔ ((n < NNN ∧ (shp n).1 = 1) ∧ (0 ≤ x.toInt ∧ x.toInt = (shp n).2)) ∧ Ev L xs ρ 86 17 [l0] (.ref n :: st) (n + 1, zr2 I n 0, zr2 Lm n 0, zr2 Rm n 0) r := ev_nwi cm_86 dX6_init_15
theorem x86_17 : Ev L xs ρ 86 17 [l0] (.ref b :: .ref a :: st) (n, I, Lm, Rm) r ↔ (a < n ∧ shp a = (0, 6)) ∧ Ev L xs ρ 86 20 [l0] st (n, I, Lm, up2 Rm a 1 (b + 1)) r := ev_ptR cm_86 dX6_init_17 rfl rfl (Or.inr ⟨rfl, rfl⟩)
theorem x86_20 : Ev L xs ρ 86 20 [some (.ref a)] st σ r ↔ Ev L xs ρ 86 21 [some (.ref a)] (.ref a :: st) σ r := ev_aload_n cm_86 dX6_init_20 rfl rfl
theorem x86_21 : Ev L xs ρ 86 21 [l0] st σ r ↔ Ev L xs ρ 86 23 [l0] (.int (6) :: st) σ r := ev_bipush cm_86 dX6_init_21 (by decide)
theorem x86_23 : Ev L xs ρ 86 23 [l0] (.int x :: st) (n, I, Lm, Rm) r ↔ ((n < NNN ∧ (shp n).1 = 1) ∧ (0 ≤ x.toInt ∧ x.toInt = (shp n).2)) ∧ Ev L xs ρ 86 25 [l0] (.ref n :: st) (n + 1, zr2 I n 0, zr2 Lm n 0, zr2 Rm n 0) r := ev_nwi cm_86 dX6_init_23
theorem x86_25 : Ev L xs ρ 86 25 [l0] (.ref b :: .ref a :: st) (n, I, Lm, Rm) r ↔ (a < n ∧ shp a = (0, 6)) ∧ Ev L xs ρ 86 28 [l0] st (n, I, Lm, up2 Rm a 2 (b + 1)) r := ev_ptR cm_86 dX6_init_25 rfl rfl (Or.inr ⟨rfl, rfl⟩)
theorem x86_28 : Ev L xs ρ 86 28 [some (.ref a)] st σ r ↔ Ev L xs ρ 86 29 [some (.ref a)] (.ref a :: st) σ r := ev_aload_n cm_86 dX6_init_28 rfl rfl
theorem x86_29 : Ev L xs ρ 86 29 [l0] st σ r ↔ Ev L xs ρ 86 31 [l0] (.int (6) :: st) σ r := ev_bipush cm_86 dX6_init_29 (by decide)
theorem x86_31 : Ev L xs ρ 86 31 [l0] (.int x :: st) (n, I, Lm, Rm) r ↔ ((n < NNN ∧ (shp n).1 = 1) ∧ (0 ≤ x.toInt ∧ x.toInt = (shp n).2)) ∧ Ev L xs ρ 86 33 [l0] (.ref n :: st) (n + 1, zr2 I n 0, zr2 Lm n 0, zr2 Rm n 0) r := ev_nwi cm_86 dX6_init_31
theorem x86_33 : Ev L xs ρ 86 33 [l0] (.ref b :: .ref a :: st) (n, I, Lm, Rm) r ↔ (a < n ∧ shp a = (0, 6)) ∧ Ev L xs ρ 86 36 [l0] st (n, I, Lm, up2 Rm a 3 (b + 1)) r := ev_ptR cm_86 dX6_init_33 rfl rfl (Or.inr ⟨rfl, rfl⟩)
theorem x86_36 : Ev L xs ρ 86 36 [some (.ref a)] st σ r ↔ Ev L xs ρ 86 37 [some (.ref a)] (.ref a :: st) σ r := ev_aload_n cm_86 dX6_init_36 rfl rfl
theorem x86_37 : Ev L xs ρ 86 37 [l0] st σ r ↔ Ev L xs ρ 86 39 [l0] (.int (6) :: st) σ r := ev_bipush cm_86 dX6_init_37 (by decide)
theorem x86_39 : Ev L xs ρ 86 39 [l0] (.int x :: st) (n, I, Lm, Rm) r ↔ ((n < NNN ∧ (shp n).1 = 1) ∧ (0 ≤ x.toInt ∧ x.toInt = (shp n).2)) ∧ Ev L xs ρ 86 41 [l0] (.ref n :: st) (n + 1, zr2 I n 0, zr2 Lm n 0, zr2 Rm n 0) r := ev_nwi cm_86 dX6_init_39
theorem x86_41 : Ev L xs ρ 86 41 [l0] (.ref b :: .ref a :: st) (n, I, Lm, Rm) r ↔ (a < n ∧ shp a = (0, 6)) ∧ Ev L xs ρ 86 44 [l0] st (n, I, Lm, up2 Rm a 4 (b + 1)) r := ev_ptR cm_86 dX6_init_41 rfl rfl (Or.inr ⟨rfl, rfl⟩)
theorem x86_44 : Ev L xs ρ 86 44 [some (.ref a)] st σ r ↔ Ev L xs ρ 86 45 [some (.ref a)] (.ref a :: st) σ r := ev_aload_n cm_86 dX6_init_44 rfl rfl
theorem x86_45 : Ev L xs ρ 86 45 [l0] st σ r ↔ Ev L xs ρ 86 47 [l0] (.int (6) :: st) σ r := ev_bipush cm_86 dX6_init_45 (by decide)
theorem x86_47 : Ev L xs ρ 86 47 [l0] (.int x :: st) (n, I, Lm, Rm) r ↔ ((n < NNN ∧ (shp n).1 = 1) ∧ (0 ≤ x.toInt ∧ x.toInt = (shp n).2)) ∧ Ev L xs ρ 86 49 [l0] (.ref n :: st) (n + 1, zr2 I n 0, zr2 Lm n 0, zr2 Rm n 0) r := ev_nwi cm_86 dX6_init_47
theorem x86_49 : Ev L xs ρ 86 49 [l0] (.ref b :: .ref a :: st) (n, I, Lm, Rm) r ↔ (a < n ∧ shp a = (0, 6)) ∧ Ev L xs ρ 86 52 [l0] st (n, I, Lm, up2 Rm a 5 (b + 1)) r := ev_ptR cm_86 dX6_init_49 rfl rfl (Or.inr ⟨rfl, rfl⟩)
theorem x86_52 : Ev L xs ρ 86 52 [l0] [] σ r ↔ r = (none, σ) := ev_retv cm_86 dX6_init_52 rfl
theorem cm_87 : mcd 87 = cX7_init := rfl
theorem em_87 : Em L xs 87 [.ref a] σ r ↔ Ev L xs 1 87 0 [some (.ref a), none, none, none] [] σ r := Iff.rfl
theorem x87_0 : Ev L xs ρ 87 0 [some (.ref a), l1, l2, l3] st σ r ↔ Ev L xs ρ 87 1 [some (.ref a), l1, l2, l3] (.ref a :: st) σ r := ev_aload_n cm_87 dX7_init_0 rfl rfl
theorem x87_1 : Ev L xs ρ 87 1 [l0, l1, l2, l3] (.ref a :: []) σ r ↔ Ev L xs ρ 87 4 [l0, l1, l2, l3] [] σ r := ev_oi cm_87 dX7_init_1 rfl (Nat.le_of_ble_eq_true rfl)
theorem x87_4 : Ev L xs ρ 87 4 [some (.ref a), l1, l2, l3] st σ r ↔ Ev L xs ρ 87 5 [some (.ref a), l1, l2, l3] (.ref a :: st) σ r := ev_aload_n cm_87 dX7_init_4 rfl rfl
theorem x87_5 : Ev L xs ρ 87 5 [l0, l1, l2, l3] st σ r ↔ Ev L xs ρ 87 7 [l0, l1, l2, l3] (.int (33) :: st) σ r := ev_bipush cm_87 dX7_init_5 (by decide)
theorem x87_7 : Ev L xs ρ 87 7 [l0, l1, l2, l3] (.int x :: st) (n, I, Lm, Rm) r ↔ ((n < NNN ∧ (shp n).1 = 1) ∧ (0 ≤ x.toInt ∧ x.toInt = (shp n).2)) ∧ Ev L xs ρ 87 9 [l0, l1, l2, l3] (.ref n :: st) (n + 1, zr2 I n 0, zr2 Lm n 0, zr2 Rm n 0) r := ev_nwi cm_87 dX7_init_7
theorem x87_9 : Ev L xs ρ 87 9 [l0, l1, l2, l3] (.ref b :: .ref a :: st) (n, I, Lm, Rm) r ↔ (a < n ∧ shp a = (0, 7)) ∧ Ev L xs ρ 87 12 [l0, l1, l2, l3] st (n, I, Lm, up2 Rm a 0 (b + 1)) r := ev_ptR cm_87 dX7_init_9 rfl rfl (Or.inr ⟨rfl, rfl⟩)
theorem x87_12 : Ev L xs ρ 87 12 [some (.ref a), l1, l2, l3] st σ r ↔ Ev L xs ρ 87 13 [some (.ref a), l1, l2, l3] (.ref a :: st) σ r := ev_aload_n cm_87 dX7_init_12 rfl rfl
theorem x87_13 : Ev L xs ρ 87 13 [l0, l1, l2, l3] st σ r ↔ Ev L xs ρ 87 16 [l0, l1, l2, l3] (.int (1601) :: st) σ r := ev_sipush cm_87 dX7_init_13 (by decide)
theorem x87_16 : Ev L xs ρ 87 16 [l0, l1, l2, l3] (.int x :: st) (n, I, Lm, Rm) r ↔ ((n < NNN ∧ (shp n).1 = 1) ∧ (0 ≤ x.toInt ∧ x.toInt = (shp n).2)) ∧ Ev L xs ρ 87 18 [l0, l1, l2, l3] (.ref n :: st) (n + 1, zr2 I n 0, zr2 Lm n 0, zr2 Rm n 0) r := ev_nwi cm_87 dX7_init_16
theorem x87_18 : Ev L xs ρ 87 18 [l0, l1, l2, l3] (.ref b :: .ref a :: st) (n, I, Lm, Rm) r ↔ (a < n ∧ shp a = (0, 7)) ∧ Ev L xs ρ 87 21 [l0, l1, l2, l3] st (n, I, Lm, up2 Rm a 1 (b + 1)) r := ev_ptR cm_87 dX7_init_18 rfl rfl (Or.inr ⟨rfl, rfl⟩)
theorem x87_21 : Ev L xs ρ 87 21 [some (.ref a), l1, l2, l3] st σ r ↔ Ev L xs ρ 87 22 [some (.ref a), l1, l2, l3] (.ref a :: st) σ r := ev_aload_n cm_87 dX7_init_21 rfl rfl
theorem x87_22 : Ev L xs ρ 87 22 [l0, l1, l2, l3] st σ r ↔ Ev L xs ρ 87 25 [l0, l1, l2, l3] (.int (1601) :: st) σ r := ev_sipush cm_87 dX7_init_22 (by decide)
theorem x87_25 : Ev L xs ρ 87 25 [l0, l1, l2, l3] (.int x :: st) (n, I, Lm, Rm) r ↔ ((n < NNN ∧ (shp n).1 = 1) ∧ (0 ≤ x.toInt ∧ x.toInt = (shp n).2)) ∧ Ev L xs ρ 87 27 [l0, l1, l2, l3] (.ref n :: st) (n + 1, zr2 I n 0, zr2 Lm n 0, zr2 Rm n 0) r := ev_nwi cm_87 dX7_init_25
theorem x87_27 : Ev L xs ρ 87 27 [l0, l1, l2, l3] (.ref b :: .ref a :: st) (n, I, Lm, Rm) r ↔ (a < n ∧ shp a = (0, 7)) ∧ Ev L xs ρ 87 30 [l0, l1, l2, l3] st (n, I, Lm, up2 Rm a 2 (b + 1)) r := ev_ptR cm_87 dX7_init_27 rfl rfl (Or.inr ⟨rfl, rfl⟩)
theorem x87_30 : Ev L xs ρ 87 30 [some (.ref a), l1, l2, l3] st σ r ↔ Ev L xs ρ 87 31 [some (.ref a), l1, l2, l3] (.ref a :: st) σ r := ev_aload_n cm_87 dX7_init_30 rfl rfl
theorem x87_31 : Ev L xs ρ 87 31 [l0, l1, l2, l3] st σ r ↔ Ev L xs ρ 87 34 [l0, l1, l2, l3] (.int (1601) :: st) σ r := ev_sipush cm_87 dX7_init_31 (by decide)
theorem x87_34 : Ev L xs ρ 87 34 [l0, l1, l2, l3] (.int x :: st) (n, I, Lm, Rm) r ↔ ((n < NNN ∧ (shp n).1 = 1) ∧ (0 ≤ x.toInt ∧ x.toInt = (shp n).2)) ∧ Ev L xs ρ 87 36 [l0, l1, l2, l3] (.ref n :: st) (n + 1, zr2 I n 0, zr2 Lm n 0, zr2 Rm n 0) r := ev_nwi cm_87 dX7_init_34
theorem x87_36 : Ev L xs ρ 87 36 [l0, l1, l2, l3] (.ref b :: .ref a :: st) (n, I, Lm, Rm) r ↔ (a < n ∧ shp a = (0, 7)) ∧ Ev L xs ρ 87 39 [l0, l1, l2, l3] st (n, I, Lm, up2 Rm a 3 (b + 1)) r := ev_ptR cm_87 dX7_init_36 rfl rfl (Or.inr ⟨rfl, rfl⟩)
theorem x87_39 : Ev L xs ρ 87 39 [some (.ref a), l1, l2, l3] st σ r ↔ Ev L xs ρ 87 40 [some (.ref a), l1, l2, l3] (.ref a :: st) σ r := ev_aload_n cm_87 dX7_init_39 rfl rfl
theorem x87_40 : Ev L xs ρ 87 40 [l0, l1, l2, l3] st σ r ↔ Ev L xs ρ 87 43 [l0, l1, l2, l3] (.int (1601) :: st) σ r := ev_sipush cm_87 dX7_init_40 (by decide)
theorem x87_43 : Ev L xs ρ 87 43 [l0, l1, l2, l3] (.int x :: st) (n, I, Lm, Rm) r ↔ ((n < NNN ∧ (shp n).1 = 1) ∧ (0 ≤ x.toInt ∧ x.toInt = (shp n).2)) ∧ Ev L xs ρ 87 45 [l0, l1, l2, l3] (.ref n :: st) (n + 1, zr2 I n 0, zr2 Lm n 0, zr2 Rm n 0) r := ev_nwi cm_87 dX7_init_43
theorem x87_45 : Ev L xs ρ 87 45 [l0, l1, l2, l3] (.ref b :: .ref a :: st) (n, I, Lm, Rm) r ↔ (a < n ∧ shp a = (0, 7)) ∧ Ev L xs ρ 87 48 [l0, l1, l2, l3] st (n, I, Lm, up2 Rm a 4 (b + 1)) r := ev_ptR cm_87 dX7_init_45 rfl rfl (Or.inr ⟨rfl, rfl⟩)
theorem x87_48 : Ev L xs ρ 87 48 [l0, l1, l2, l3] st σ r ↔ Ev L xs ρ 87 49 [l0, l1, l2, l3] (.int (0) :: st) σ r := ev_iconst cm_87 dX7_init_48 (by decide)
theorem x87_49 : Ev L xs ρ 87 49 [l0, l1, l2, l3] (.int x :: st) σ r ↔ Ev L xs ρ 87 50 [l0, some (.int x), l2, l3] st σ r := ev_istore_n cm_87 dX7_init_49 rfl (Nat.le_of_ble_eq_true rfl)
theorem x87_50 : Ev L xs ρ 87 50 [l0, l1, l2, l3] st σ r ↔ Ev L xs ρ 87 51 [l0, l1, l2, l3] (.int (0) :: st) σ r := ev_iconst cm_87 dX7_init_50 (by decide)
theorem x87_51 : Ev L xs ρ 87 51 [l0, l1, l2, l3] (.int x :: st) σ r ↔ Ev L xs ρ 87 52 [l0, l1, some (.int x), l3] st σ r := ev_istore_n cm_87 dX7_init_51 rfl (Nat.le_of_ble_eq_true rfl)
theorem x87_52 : Ev L xs ρ 87 52 [l0, l1, l2, l3] st σ r ↔ Ev L xs ρ 87 53 [l0, l1, l2, l3] (.int (0) :: st) σ r := ev_iconst cm_87 dX7_init_52 (by decide)
theorem x87_53 : Ev L xs ρ 87 53 [l0, l1, l2, l3] (.int x :: st) σ r ↔ Ev L xs ρ 87 54 [l0, l1, l2, some (.int x)] st σ r := ev_istore_n cm_87 dX7_init_53 rfl (Nat.le_of_ble_eq_true rfl)
theorem x87_54 : Ev L xs ρ 87 54 [l0, l1, l2, some (.int x)] st σ r ↔ Ev L xs ρ 87 55 [l0, l1, l2, some (.int x)] (.int x :: st) σ r := ev_iload_n cm_87 dX7_init_54 rfl rfl
theorem x87_55 : Ev L xs ρ 87 55 [l0, l1, l2, l3] st σ r ↔ Ev L xs ρ 87 57 [l0, l1, l2, l3] (.ref 1001 :: st) σ r := ev_ldcs cm_87 dX7_init_55 rfl
theorem x87_57 : Ev L xs ρ 87 57 [l0, l1, l2, l3] (.ref 1001 :: .int x :: []) σ r ↔ Ev L xs ρ 87 60 [l0, l1, l2, l3] (.int (Int32.ofNat STX.length) :: .int x :: []) σ r := ev_sl cm_87 dX7_init_57 rfl (Nat.le_of_ble_eq_true rfl)
theorem x87_60 : Ev L xs ρ 87 60 [l0, l1, l2, l3] (.int y :: .int x :: st) σ r ↔ if y ≤ x then Ev L xs ρ 87 100 [l0, l1, l2, l3] st σ r else Ev L xs ρ 87 63 [l0, l1, l2, l3] st σ r := ev_icge cm_87 dX7_init_60 (by decide)
theorem x87_63 : Ev L xs ρ 87 63 [l0, l1, l2, l3] st σ r ↔ Ev L xs ρ 87 65 [l0, l1, l2, l3] (.ref 1001 :: st) σ r := ev_ldcs cm_87 dX7_init_63 rfl
theorem x87_65 : Ev L xs ρ 87 65 [l0, l1, l2, some (.int x)] st σ r ↔ Ev L xs ρ 87 66 [l0, l1, l2, some (.int x)] (.int x :: st) σ r := ev_iload_n cm_87 dX7_init_65 rfl rfl
theorem x87_66 : Ev L xs ρ 87 66 [l0, l1, l2, l3] (.int x7 :: .ref 1001 :: []) σ r ↔ inb x7 STX.length ∧ Ev L xs ρ 87 69 [l0, l1, l2, l3] (.int (sch (ixn x7)) :: []) σ r := ev_sc cm_87 dX7_init_66 rfl (Nat.le_of_ble_eq_true rfl)
theorem x87_69 : Ev L xs ρ 87 69 [l0, l1, l2, l3] st σ r ↔ Ev L xs ρ 87 71 [l0, l1, l2, l3] (.int (32) :: st) σ r := ev_bipush cm_87 dX7_init_69 (by decide)
theorem x87_71 : Ev L xs ρ 87 71 [l0, l1, l2, l3] (.int y :: .int x :: st) σ r ↔ if x = y then Ev L xs ρ 87 74 [l0, l1, l2, l3] st σ r else Ev L xs ρ 87 94 [l0, l1, l2, l3] st σ r := ev_icne cm_87 dX7_init_71 (by decide)
theorem x87_74 : Ev L xs ρ 87 74 [some (.ref a), l1, l2, l3] st σ r ↔ Ev L xs ρ 87 75 [some (.ref a), l1, l2, l3] (.ref a :: st) σ r := ev_aload_n cm_87 dX7_init_74 rfl rfl
theorem x87_75 : Ev L xs ρ 87 75 [l0, l1, l2, l3] (.ref a :: st) (n, I, Lm, Rm) r ↔ (a < n ∧ shp a = (0, 7)) ∧ Ev L xs ρ 87 78 [l0, l1, l2, l3] (rfv (Rm a 0) :: st) (n, I, Lm, Rm) r := ev_gtR cm_87 dX7_init_75 rfl rfl
theorem x87_78 : Ev L xs ρ 87 78 [l0, some (.int x), l2, l3] st σ r ↔ Ev L xs ρ 87 79 [l0, some (.int x), l2, l3] (.int x :: st) σ r := ev_iload_n cm_87 dX7_init_78 rfl rfl
theorem x87_79 : Ev L xs ρ 87 79 [l0, l1, some (.int x), l3] st σ r ↔ Ev L xs ρ 87 80 [l0, l1, some (.int x), l3] (.int x :: st) σ r := ev_iload_n cm_87 dX7_init_79 rfl rfl
theorem x87_80 : Ev L xs ρ 87 80 [l0, l1, l2, some (.int x)] st σ r ↔ Ev L xs ρ 87 81 [l0, l1, l2, some (.int x)] (.int x :: st) σ r := ev_iload_n cm_87 dX7_init_80 rfl rfl
theorem x87_81 : Ev L xs 1 87 81 [l0, l1, l2, l3] (.int z :: .int y :: .int x :: .ref a :: []) σ r ↔ ∃ v n2 I2 L2 R2, Em L xs 88 [.int y, .int z] σ (v, n2, I2, L2, R2) ∧ Ev L xs 1 87 84 [l0, l1, l2, l3] (v.toList ++ (.int x :: .ref a :: [])) (n2, I2, L2, R2) r := ev_cS cm_87 [.int y, .int z] dX7_init_81 rfl rfl rfl (Nat.le_of_ble_eq_true rfl) (rka_lt rfl (by decide)) (Nat.le_of_ble_eq_true rfl)
theorem x87_84 : Ev L xs 1 87 84 [l0, l1, l2, l3] (.int y :: .int x :: .ref a :: []) σ r ↔ ∃ v n2 I2 L2 R2, Em L xs 161 [.ref a, .int x, .int y] σ (v, n2, I2, L2, R2) ∧ Ev L xs 1 87 87 [l0, l1, l2, l3] (v.toList ++ []) (n2, I2, L2, R2) r := ev_cS cm_87 [.ref a, .int x, .int y] dX7_init_84 rfl rfl rfl (Nat.le_of_ble_eq_true rfl) (rka_lt rfl (by decide)) (Nat.le_of_ble_eq_true rfl)
theorem x87_87 : Ev L xs ρ 87 87 [l0, some (.int x), l2, l3] st σ r ↔ Ev L xs ρ 87 90 [l0, some (.int (x + (1))), l2, l3] st σ r := ev_iinc cm_87 dX7_init_87 rfl (by decide)
theorem x87_90 : Ev L xs ρ 87 90 [l0, l1, l2, some (.int x)] st σ r ↔ Ev L xs ρ 87 91 [l0, l1, l2, some (.int x)] (.int x :: st) σ r := ev_iload_n cm_87 dX7_init_90 rfl rfl
theorem x87_91 : Ev L xs ρ 87 91 [l0, l1, l2, l3] st σ r ↔ Ev L xs ρ 87 92 [l0, l1, l2, l3] (.int (1) :: st) σ r := ev_iconst cm_87 dX7_init_91 (by decide)
theorem x87_92 : Ev L xs ρ 87 92 [l0, l1, l2, l3] (.int y :: .int x :: st) σ r ↔ Ev L xs ρ 87 93 [l0, l1, l2, l3] (.int (x + y) :: st) σ r := ev_nx (ev_ex cm_87 dX7_init_92 rfl rfl)
theorem x87_93 : Ev L xs ρ 87 93 [l0, l1, l2, l3] (.int x :: st) σ r ↔ Ev L xs ρ 87 94 [l0, l1, some (.int x), l3] st σ r := ev_istore_n cm_87 dX7_init_93 rfl (Nat.le_of_ble_eq_true rfl)
theorem x87_94 : Ev L xs ρ 87 94 [l0, l1, l2, some (.int x)] st σ r ↔ Ev L xs ρ 87 97 [l0, l1, l2, some (.int (x + (1)))] st σ r := ev_iinc cm_87 dX7_init_94 rfl (by decide)
theorem x87_97 : Ev L xs ρ 87 97 [l0, l1, l2, l3] st σ r ↔ Ev L xs ρ 87 54 [l0, l1, l2, l3] st σ r := ev_goto cm_87 dX7_init_97 (by decide)
theorem x87_100 : Ev L xs ρ 87 100 [l0, l1, l2, l3] [] σ r ↔ r = (none, σ) := ev_retv cm_87 dX7_init_100 rfl
theorem cm_88 : mcd 88 = cX7_ownNameOf := rfl
theorem em_88 : Em L xs 88 [.int x, .int y] σ r ↔ Ev L xs 0 88 0 [some (.int x), some (.int y), none, none, none] [] σ r := Iff.rfl
theorem x88_0 : Ev L xs ρ 88 0 [l0, l1, l2, l3, l4] st σ r ↔ Ev L xs ρ 88 1 [l0, l1, l2, l3, l4] (.int (0) :: st) σ r := ev_iconst cm_88 dX7_ownNameOf_0 (by decide)
theorem x88_1 : Ev L xs ρ 88 1 [l0, l1, l2, l3, l4] (.int x :: st) σ r ↔ Ev L xs ρ 88 2 [l0, l1, some (.int x), l3, l4] st σ r := ev_istore_n cm_88 dX7_ownNameOf_1 rfl (Nat.le_of_ble_eq_true rfl)
theorem x88_2 : Ev L xs ρ 88 2 [some (.int x), l1, l2, l3, l4] st σ r ↔ Ev L xs ρ 88 3 [some (.int x), l1, l2, l3, l4] (.int x :: st) σ r := ev_iload_n cm_88 dX7_ownNameOf_2 rfl rfl
theorem x88_3 : Ev L xs ρ 88 3 [l0, l1, l2, l3, l4] (.int x :: st) σ r ↔ Ev L xs ρ 88 4 [l0, l1, l2, some (.int x), l4] st σ r := ev_istore_n cm_88 dX7_ownNameOf_3 rfl (Nat.le_of_ble_eq_true rfl)
theorem x88_4 : Ev L xs ρ 88 4 [l0, l1, l2, some (.int x), l4] st σ r ↔ Ev L xs ρ 88 5 [l0, l1, l2, some (.int x), l4] (.int x :: st) σ r := ev_iload_n cm_88 dX7_ownNameOf_4 rfl rfl
theorem x88_5 : Ev L xs ρ 88 5 [some (.int x), l1, l2, l3, l4] st σ r ↔ Ev L xs ρ 88 6 [some (.int x), l1, l2, l3, l4] (.int x :: st) σ r := ev_iload_n cm_88 dX7_ownNameOf_5 rfl rfl
theorem x88_6 : Ev L xs ρ 88 6 [l0, l1, l2, l3, l4] st σ r ↔ Ev L xs ρ 88 8 [l0, l1, l2, l3, l4] (.int (6) :: st) σ r := ev_bipush cm_88 dX7_ownNameOf_6 (by decide)
theorem x88_8 : Ev L xs ρ 88 8 [l0, l1, l2, l3, l4] (.int y :: .int x :: st) σ r ↔ Ev L xs ρ 88 9 [l0, l1, l2, l3, l4] (.int (x + y) :: st) σ r := ev_nx (ev_ex cm_88 dX7_ownNameOf_8 rfl rfl)
theorem x88_9 : Ev L xs ρ 88 9 [l0, l1, l2, l3, l4] (.int y :: .int x :: st) σ r ↔ if y ≤ x then Ev L xs ρ 88 57 [l0, l1, l2, l3, l4] st σ r else Ev L xs ρ 88 12 [l0, l1, l2, l3, l4] st σ r := ev_icge cm_88 dX7_ownNameOf_9 (by decide)
theorem x88_12 : Ev L xs ρ 88 12 [l0, l1, l2, some (.int x), l4] st σ r ↔ Ev L xs ρ 88 13 [l0, l1, l2, some (.int x), l4] (.int x :: st) σ r := ev_iload_n cm_88 dX7_ownNameOf_12 rfl rfl
theorem x88_13 : Ev L xs ρ 88 13 [l0, some (.int x), l2, l3, l4] st σ r ↔ Ev L xs ρ 88 14 [l0, some (.int x), l2, l3, l4] (.int x :: st) σ r := ev_iload_n cm_88 dX7_ownNameOf_13 rfl rfl
theorem x88_14 : Ev L xs ρ 88 14 [l0, l1, l2, l3, l4] (.int y :: .int x :: st) σ r ↔ if y ≤ x then Ev L xs ρ 88 40 [l0, l1, l2, l3, l4] st σ r else Ev L xs ρ 88 17 [l0, l1, l2, l3, l4] st σ r := ev_icge cm_88 dX7_ownNameOf_14 (by decide)
theorem x88_17 : Ev L xs ρ 88 17 [l0, l1, l2, some (.int x), l4] st σ r ↔ Ev L xs ρ 88 18 [l0, l1, l2, some (.int x), l4] (.int x :: st) σ r := ev_iload_n cm_88 dX7_ownNameOf_17 rfl rfl
theorem x88_18 : Ev L xs ρ 88 18 [l0, l1, l2, l3, l4] st σ r ↔ Ev L xs ρ 88 20 [l0, l1, l2, l3, l4] (.ref 1001 :: st) σ r := ev_ldcs cm_88 dX7_ownNameOf_18 rfl
theorem x88_20 : Ev L xs ρ 88 20 [l0, l1, l2, l3, l4] (.ref 1001 :: .int x :: []) σ r ↔ Ev L xs ρ 88 23 [l0, l1, l2, l3, l4] (.int (Int32.ofNat STX.length) :: .int x :: []) σ r := ev_sl cm_88 dX7_ownNameOf_20 rfl (Nat.le_of_ble_eq_true rfl)
theorem x88_23 : Ev L xs ρ 88 23 [l0, l1, l2, l3, l4] (.int y :: .int x :: st) σ r ↔ if y ≤ x then Ev L xs ρ 88 40 [l0, l1, l2, l3, l4] st σ r else Ev L xs ρ 88 26 [l0, l1, l2, l3, l4] st σ r := ev_icge cm_88 dX7_ownNameOf_23 (by decide)
theorem x88_26 : Ev L xs ρ 88 26 [l0, l1, l2, l3, l4] st σ r ↔ Ev L xs ρ 88 28 [l0, l1, l2, l3, l4] (.ref 1001 :: st) σ r := ev_ldcs cm_88 dX7_ownNameOf_26 rfl
theorem x88_28 : Ev L xs ρ 88 28 [l0, l1, l2, some (.int x), l4] st σ r ↔ Ev L xs ρ 88 29 [l0, l1, l2, some (.int x), l4] (.int x :: st) σ r := ev_iload_n cm_88 dX7_ownNameOf_28 rfl rfl
theorem x88_29 : Ev L xs ρ 88 29 [l0, l1, l2, l3, l4] (.int x7 :: .ref 1001 :: []) σ r ↔ inb x7 STX.length ∧ Ev L xs ρ 88 32 [l0, l1, l2, l3, l4] (.int (sch (ixn x7)) :: []) σ r := ev_sc cm_88 dX7_ownNameOf_29 rfl (Nat.le_of_ble_eq_true rfl)
theorem x88_32 : Ev L xs ρ 88 32 [l0, l1, l2, l3, l4] st σ r ↔ Ev L xs ρ 88 34 [l0, l1, l2, l3, l4] (.int (97) :: st) σ r := ev_bipush cm_88 dX7_ownNameOf_32 (by decide)
theorem x88_34 : Ev L xs ρ 88 34 [l0, l1, l2, l3, l4] (.int y :: .int x :: st) σ r ↔ Ev L xs ρ 88 35 [l0, l1, l2, l3, l4] (.int (x - y) :: st) σ r := ev_nx (ev_ex cm_88 dX7_ownNameOf_34 rfl rfl)
theorem x88_35 : Ev L xs ρ 88 35 [l0, l1, l2, l3, l4] st σ r ↔ Ev L xs ρ 88 36 [l0, l1, l2, l3, l4] (.int (1) :: st) σ r := ev_iconst cm_88 dX7_ownNameOf_35 (by decide)
theorem x88_36 : Ev L xs ρ 88 36 [l0, l1, l2, l3, l4] (.int y :: .int x :: st) σ r ↔ Ev L xs ρ 88 37 [l0, l1, l2, l3, l4] (.int (x + y) :: st) σ r := ev_nx (ev_ex cm_88 dX7_ownNameOf_36 rfl rfl)
theorem x88_37 : Ev L xs ρ 88 37 [l0, l1, l2, l3, l4] st σ r ↔ Ev L xs ρ 88 41 [l0, l1, l2, l3, l4] st σ r := ev_goto cm_88 dX7_ownNameOf_37 (by decide)
theorem x88_40 : Ev L xs ρ 88 40 [l0, l1, l2, l3, l4] st σ r ↔ Ev L xs ρ 88 41 [l0, l1, l2, l3, l4] (.int (0) :: st) σ r := ev_iconst cm_88 dX7_ownNameOf_40 (by decide)
theorem x88_41 : Ev L xs ρ 88 41 [l0, l1, l2, l3, l4] (.int x :: st) σ r ↔ Ev L xs ρ 88 43 [l0, l1, l2, l3, some (.int x)] st σ r := ev_istore cm_88 dX7_ownNameOf_41 (Nat.le_of_ble_eq_true rfl)
theorem x88_43 : Ev L xs ρ 88 43 [l0, l1, some (.int x), l3, l4] st σ r ↔ Ev L xs ρ 88 44 [l0, l1, some (.int x), l3, l4] (.int x :: st) σ r := ev_iload_n cm_88 dX7_ownNameOf_43 rfl rfl
theorem x88_44 : Ev L xs ρ 88 44 [l0, l1, l2, l3, l4] st σ r ↔ Ev L xs ρ 88 46 [l0, l1, l2, l3, l4] (.int (27) :: st) σ r := ev_bipush cm_88 dX7_ownNameOf_44 (by decide)
theorem x88_46 : Ev L xs ρ 88 46 [l0, l1, l2, l3, l4] (.int y :: .int x :: st) σ r ↔ Ev L xs ρ 88 47 [l0, l1, l2, l3, l4] (.int (x * y) :: st) σ r := ev_nx (ev_ex cm_88 dX7_ownNameOf_46 rfl rfl)
theorem x88_47 : Ev L xs ρ 88 47 [l0, l1, l2, l3, some (.int x)] st σ r ↔ Ev L xs ρ 88 49 [l0, l1, l2, l3, some (.int x)] (.int x :: st) σ r := ev_iload cm_88 dX7_ownNameOf_47 rfl
theorem x88_49 : Ev L xs ρ 88 49 [l0, l1, l2, l3, l4] (.int y :: .int x :: st) σ r ↔ Ev L xs ρ 88 50 [l0, l1, l2, l3, l4] (.int (x + y) :: st) σ r := ev_nx (ev_ex cm_88 dX7_ownNameOf_49 rfl rfl)
theorem x88_50 : Ev L xs ρ 88 50 [l0, l1, l2, l3, l4] (.int x :: st) σ r ↔ Ev L xs ρ 88 51 [l0, l1, some (.int x), l3, l4] st σ r := ev_istore_n cm_88 dX7_ownNameOf_50 rfl (Nat.le_of_ble_eq_true rfl)
theorem x88_51 : Ev L xs ρ 88 51 [l0, l1, l2, some (.int x), l4] st σ r ↔ Ev L xs ρ 88 54 [l0, l1, l2, some (.int (x + (1))), l4] st σ r := ev_iinc cm_88 dX7_ownNameOf_51 rfl (by decide)
theorem x88_54 : Ev L xs ρ 88 54 [l0, l1, l2, l3, l4] st σ r ↔ Ev L xs ρ 88 4 [l0, l1, l2, l3, l4] st σ r := ev_goto cm_88 dX7_ownNameOf_54 (by decide)
theorem x88_57 : Ev L xs ρ 88 57 [l0, l1, some (.int x), l3, l4] st σ r ↔ Ev L xs ρ 88 58 [l0, l1, some (.int x), l3, l4] (.int x :: st) σ r := ev_iload_n cm_88 dX7_ownNameOf_57 rfl rfl
theorem x88_58 : Ev L xs ρ 88 58 [l0, l1, l2, l3, l4] [.int x] σ r ↔ r = (some (.int x), σ) := ev_reti cm_88 dX7_ownNameOf_58 rfl
theorem cm_89 : mcd 89 = cX7_cut := rfl
theorem em_89 : Em L xs 89 [.ref a, .ref b, .int x] σ r ↔ Ev L xs 3 89 0 [some (.ref a), some (.ref b), some (.int x), none, none, none] [] σ r := Iff.rfl
theorem x89_0 : Ev L xs ρ 89 0 [some (.ref a), l1, l2, l3, l4, l5] st σ r ↔ Ev L xs ρ 89 1 [some (.ref a), l1, l2, l3, l4, l5] (.ref a :: st) σ r := ev_aload_n cm_89 dX7_cut_0 rfl rfl
theorem x89_1 : Ev L xs ρ 89 1 [l0, l1, l2, l3, l4, l5] st σ r ↔ Ev L xs ρ 89 2 [l0, l1, l2, l3, l4, l5] (.int (0) :: st) σ r := ev_iconst cm_89 dX7_cut_1 (by decide)
theorem x89_2 : Ev L xs ρ 89 2 [l0, l1, l2, l3, l4, l5] (.int x :: .ref a :: st) (n, I, Lm, Rm) r ↔ (a < n ∧ shp a = (0, 7)) ∧ Ev L xs ρ 89 5 [l0, l1, l2, l3, l4, l5] st (n, up2 I a 5 x, Lm, Rm) r := ev_ptI cm_89 dX7_cut_2 rfl rfl (Or.inl rfl)
theorem x89_5 : Ev L xs ρ 89 5 [l0, l1, l2, l3, l4, l5] st σ r ↔ Ev L xs ρ 89 6 [l0, l1, l2, l3, l4, l5] (.int (0) :: st) σ r := ev_iconst cm_89 dX7_cut_5 (by decide)
theorem x89_6 : Ev L xs ρ 89 6 [l0, l1, l2, l3, l4, l5] (.int x :: st) σ r ↔ Ev L xs ρ 89 7 [l0, l1, l2, some (.int x), l4, l5] st σ r := ev_istore_n cm_89 dX7_cut_6 rfl (Nat.le_of_ble_eq_true rfl)
theorem x89_7 : Ev L xs ρ 89 7 [l0, l1, l2, some (.int x), l4, l5] st σ r ↔ Ev L xs ρ 89 8 [l0, l1, l2, some (.int x), l4, l5] (.int x :: st) σ r := ev_iload_n cm_89 dX7_cut_7 rfl rfl
theorem x89_8 : Ev L xs ρ 89 8 [l0, l1, some (.int x), l3, l4, l5] st σ r ↔ Ev L xs ρ 89 9 [l0, l1, some (.int x), l3, l4, l5] (.int x :: st) σ r := ev_iload_n cm_89 dX7_cut_8 rfl rfl
theorem x89_9 : Ev L xs ρ 89 9 [l0, l1, l2, l3, l4, l5] (.int y :: .int x :: st) σ r ↔ if y ≤ x then Ev L xs ρ 89 66 [l0, l1, l2, l3, l4, l5] st σ r else Ev L xs ρ 89 12 [l0, l1, l2, l3, l4, l5] st σ r := ev_icge cm_89 dX7_cut_9 (by decide)
theorem x89_12 : Ev L xs ρ 89 12 [l0, some (.ref a), l2, l3, l4, l5] st σ r ↔ Ev L xs ρ 89 13 [l0, some (.ref a), l2, l3, l4, l5] (.ref a :: st) σ r := ev_aload_n cm_89 dX7_cut_12 rfl rfl
theorem x89_13 : Ev L xs ρ 89 13 [l0, l1, l2, some (.int x), l4, l5] st σ r ↔ Ev L xs ρ 89 14 [l0, l1, l2, some (.int x), l4, l5] (.int x :: st) σ r := ev_iload_n cm_89 dX7_cut_13 rfl rfl
theorem x89_14 : Ev L xs 3 89 14 [l0, l1, l2, l3, l4, l5] (.int x :: .ref a :: []) σ r ↔ ∃ v n2 I2 L2 R2, Em L xs 160 [.ref a, .int x] σ (v, n2, I2, L2, R2) ∧ Ev L xs 3 89 17 [l0, l1, l2, l3, l4, l5] (v.toList ++ []) (n2, I2, L2, R2) r := ev_cS cm_89 [.ref a, .int x] dX7_cut_14 rfl rfl rfl (Nat.le_of_ble_eq_true rfl) (rka_lt rfl (by decide)) (Nat.le_of_ble_eq_true rfl)
theorem x89_17 : Ev L xs ρ 89 17 [l0, l1, l2, l3, l4, l5] (.int x :: st) σ r ↔ Ev L xs ρ 89 19 [l0, l1, l2, l3, some (.int x), l5] st σ r := ev_istore cm_89 dX7_cut_17 (Nat.le_of_ble_eq_true rfl)
theorem x89_19 : Ev L xs ρ 89 19 [l0, l1, l2, l3, some (.int x), l5] st σ r ↔ Ev L xs ρ 89 21 [l0, l1, l2, l3, some (.int x), l5] (.int x :: st) σ r := ev_iload cm_89 dX7_cut_19 rfl
theorem x89_21 : Ev L xs ρ 89 21 [l0, l1, l2, l3, l4, l5] st σ r ↔ Ev L xs ρ 89 23 [l0, l1, l2, l3, l4, l5] (.int (32) :: st) σ r := ev_bipush cm_89 dX7_cut_21 (by decide)
theorem x89_23 : Ev L xs ρ 89 23 [l0, l1, l2, l3, l4, l5] (.int y :: .int x :: st) σ r ↔ if x = y then Ev L xs ρ 89 60 [l0, l1, l2, l3, l4, l5] st σ r else Ev L xs ρ 89 26 [l0, l1, l2, l3, l4, l5] st σ r := ev_iceq cm_89 dX7_cut_23 (by decide)
theorem x89_26 : Ev L xs ρ 89 26 [l0, l1, l2, l3, some (.int x), l5] st σ r ↔ Ev L xs ρ 89 28 [l0, l1, l2, l3, some (.int x), l5] (.int x :: st) σ r := ev_iload cm_89 dX7_cut_26 rfl
theorem x89_28 : Ev L xs ρ 89 28 [l0, l1, l2, l3, l4, l5] st σ r ↔ Ev L xs ρ 89 30 [l0, l1, l2, l3, l4, l5] (.int (10) :: st) σ r := ev_bipush cm_89 dX7_cut_28 (by decide)
theorem x89_30 : Ev L xs ρ 89 30 [l0, l1, l2, l3, l4, l5] (.int y :: .int x :: st) σ r ↔ if x = y then Ev L xs ρ 89 60 [l0, l1, l2, l3, l4, l5] st σ r else Ev L xs ρ 89 33 [l0, l1, l2, l3, l4, l5] st σ r := ev_iceq cm_89 dX7_cut_30 (by decide)
theorem x89_33 : Ev L xs ρ 89 33 [l0, some (.ref a), l2, l3, l4, l5] st σ r ↔ Ev L xs ρ 89 34 [l0, some (.ref a), l2, l3, l4, l5] (.ref a :: st) σ r := ev_aload_n cm_89 dX7_cut_33 rfl rfl
theorem x89_34 : Ev L xs ρ 89 34 [l0, l1, some (.int x), l3, l4, l5] st σ r ↔ Ev L xs ρ 89 35 [l0, l1, some (.int x), l3, l4, l5] (.int x :: st) σ r := ev_iload_n cm_89 dX7_cut_34 rfl rfl
theorem x89_35 : Ev L xs ρ 89 35 [l0, l1, l2, some (.int x), l4, l5] st σ r ↔ Ev L xs ρ 89 36 [l0, l1, l2, some (.int x), l4, l5] (.int x :: st) σ r := ev_iload_n cm_89 dX7_cut_35 rfl rfl
theorem x89_36 : Ev L xs 3 89 36 [l0, l1, l2, l3, l4, l5] (.int y :: .int x :: .ref a :: []) σ r ↔ ∃ v n2 I2 L2 R2, Em L xs 92 [.ref a, .int x, .int y] σ (v, n2, I2, L2, R2) ∧ Ev L xs 3 89 39 [l0, l1, l2, l3, l4, l5] (v.toList ++ []) (n2, I2, L2, R2) r := ev_cS cm_89 [.ref a, .int x, .int y] dX7_cut_36 rfl rfl rfl (Nat.le_of_ble_eq_true rfl) (rka_lt rfl (by decide)) (Nat.le_of_ble_eq_true rfl)
theorem x89_39 : Ev L xs ρ 89 39 [l0, l1, l2, l3, l4, l5] (.int x :: st) σ r ↔ Ev L xs ρ 89 41 [l0, l1, l2, l3, l4, some (.int x)] st σ r := ev_istore cm_89 dX7_cut_39 (Nat.le_of_ble_eq_true rfl)
theorem x89_41 : Ev L xs ρ 89 41 [some (.ref a), l1, l2, l3, l4, l5] st σ r ↔ Ev L xs ρ 89 42 [some (.ref a), l1, l2, l3, l4, l5] (.ref a :: st) σ r := ev_aload_n cm_89 dX7_cut_41 rfl rfl
theorem x89_42 : Ev L xs ρ 89 42 [l0, some (.ref a), l2, l3, l4, l5] st σ r ↔ Ev L xs ρ 89 43 [l0, some (.ref a), l2, l3, l4, l5] (.ref a :: st) σ r := ev_aload_n cm_89 dX7_cut_42 rfl rfl
theorem x89_43 : Ev L xs ρ 89 43 [l0, l1, l2, some (.int x), l4, l5] st σ r ↔ Ev L xs ρ 89 44 [l0, l1, l2, some (.int x), l4, l5] (.int x :: st) σ r := ev_iload_n cm_89 dX7_cut_43 rfl rfl
theorem x89_44 : Ev L xs ρ 89 44 [l0, l1, l2, l3, l4, some (.int x)] st σ r ↔ Ev L xs ρ 89 46 [l0, l1, l2, l3, l4, some (.int x)] (.int x :: st) σ r := ev_iload cm_89 dX7_cut_44 rfl
theorem x89_46 : Ev L xs 3 89 46 [l0, l1, l2, l3, l4, l5] (.int y :: .int x :: .ref b :: .ref a :: []) (n, I, Lm, Rm) r ↔ (a < n ∧ shp a = (0, 7)) ∧ ∃ v n2 I2 L2 R2, Em L xs 93 [.ref a, .ref b, .int x, .int y] (n, I, Lm, Rm) (v, n2, I2, L2, R2) ∧ Ev L xs 3 89 49 [l0, l1, l2, l3, l4, l5] (v.toList ++ []) (n2, I2, L2, R2) r := ev_cV cm_89 [.ref b, .int x, .int y] dX7_cut_46 rfl rfl rfl rfl (Nat.le_of_ble_eq_true rfl) (rka_lt rfl (by decide)) (Nat.le_of_ble_eq_true rfl)
theorem x89_49 : Ev L xs ρ 89 49 [l0, l1, l2, some (.int x), l4, l5] st σ r ↔ Ev L xs ρ 89 50 [l0, l1, l2, some (.int x), l4, l5] (.int x :: st) σ r := ev_iload_n cm_89 dX7_cut_49 rfl rfl
theorem x89_50 : Ev L xs ρ 89 50 [l0, l1, l2, l3, l4, l5] st σ r ↔ Ev L xs ρ 89 51 [l0, l1, l2, l3, l4, l5] (.int (0) :: st) σ r := ev_iconst cm_89 dX7_cut_50 (by decide)
theorem x89_51 : Ev L xs ρ 89 51 [l0, l1, l2, l3, l4, some (.int x)] st σ r ↔ Ev L xs ρ 89 53 [l0, l1, l2, l3, l4, some (.int x)] (.int x :: st) σ r := ev_iload cm_89 dX7_cut_51 rfl
theorem x89_53 : Ev L xs ρ 89 53 [l0, l1, l2, l3, l4, l5] st σ r ↔ Ev L xs ρ 89 54 [l0, l1, l2, l3, l4, l5] (.int (1) :: st) σ r := ev_iconst cm_89 dX7_cut_53 (by decide)
theorem x89_54 : Ev L xs ρ 89 54 [l0, l1, l2, l3, l4, l5] (.int y :: .int x :: st) σ r ↔ Ev L xs ρ 89 55 [l0, l1, l2, l3, l4, l5] (.int (x - y) :: st) σ r := ev_nx (ev_ex cm_89 dX7_cut_54 rfl rfl)
theorem x89_55 : Ev L xs 3 89 55 [l0, l1, l2, l3, l4, l5] (.int z :: .int y :: .int x :: []) σ r ↔ ∃ v n2 I2 L2 R2, Em L xs 296 [.int y, .int z] σ (v, n2, I2, L2, R2) ∧ Ev L xs 3 89 58 [l0, l1, l2, l3, l4, l5] (v.toList ++ (.int x :: [])) (n2, I2, L2, R2) r := ev_cS cm_89 [.int y, .int z] dX7_cut_55 rfl rfl rfl (Nat.le_of_ble_eq_true rfl) (rka_lt rfl (by decide)) (Nat.le_of_ble_eq_true rfl)
theorem x89_58 : Ev L xs ρ 89 58 [l0, l1, l2, l3, l4, l5] (.int y :: .int x :: st) σ r ↔ Ev L xs ρ 89 59 [l0, l1, l2, l3, l4, l5] (.int (x + y) :: st) σ r := ev_nx (ev_ex cm_89 dX7_cut_58 rfl rfl)
theorem x89_59 : Ev L xs ρ 89 59 [l0, l1, l2, l3, l4, l5] (.int x :: st) σ r ↔ Ev L xs ρ 89 60 [l0, l1, l2, some (.int x), l4, l5] st σ r := ev_istore_n cm_89 dX7_cut_59 rfl (Nat.le_of_ble_eq_true rfl)
theorem x89_60 : Ev L xs ρ 89 60 [l0, l1, l2, some (.int x), l4, l5] st σ r ↔ Ev L xs ρ 89 63 [l0, l1, l2, some (.int (x + (1))), l4, l5] st σ r := ev_iinc cm_89 dX7_cut_60 rfl (by decide)
theorem x89_63 : Ev L xs ρ 89 63 [l0, l1, l2, l3, l4, l5] st σ r ↔ Ev L xs ρ 89 7 [l0, l1, l2, l3, l4, l5] st σ r := ev_goto cm_89 dX7_cut_63 (by decide)
theorem x89_66 : Ev L xs ρ 89 66 [some (.ref a), l1, l2, l3, l4, l5] st σ r ↔ Ev L xs ρ 89 67 [some (.ref a), l1, l2, l3, l4, l5] (.ref a :: st) σ r := ev_aload_n cm_89 dX7_cut_66 rfl rfl
theorem x89_67 : Ev L xs ρ 89 67 [l0, l1, l2, l3, l4, l5] (.ref a :: st) (n, I, Lm, Rm) r ↔ (a < n ∧ shp a = (0, 7)) ∧ Ev L xs ρ 89 70 [l0, l1, l2, l3, l4, l5] (rfv (Rm a 1) :: st) (n, I, Lm, Rm) r := ev_gtR cm_89 dX7_cut_67 rfl rfl
theorem x89_70 : Ev L xs ρ 89 70 [some (.ref a), l1, l2, l3, l4, l5] st σ r ↔ Ev L xs ρ 89 71 [some (.ref a), l1, l2, l3, l4, l5] (.ref a :: st) σ r := ev_aload_n cm_89 dX7_cut_70 rfl rfl
theorem x89_71 : Ev L xs ρ 89 71 [l0, l1, l2, l3, l4, l5] (.ref a :: st) (n, I, Lm, Rm) r ↔ (a < n ∧ shp a = (0, 7)) ∧ Ev L xs ρ 89 74 [l0, l1, l2, l3, l4, l5] (.int (I a 5) :: st) (n, I, Lm, Rm) r := ev_gtI cm_89 dX7_cut_71 rfl rfl
theorem x89_74 : Ev L xs ρ 89 74 [l0, l1, l2, l3, l4, l5] st σ r ↔ Ev L xs ρ 89 76 [l0, l1, l2, l3, l4, l5] (.int (43) :: st) σ r := ev_bipush cm_89 dX7_cut_74 (by decide)
theorem x89_76 : Ev L xs 3 89 76 [l0, l1, l2, l3, l4, l5] (.int y :: .int x :: .ref a :: []) σ r ↔ ∃ v n2 I2 L2 R2, Em L xs 161 [.ref a, .int x, .int y] σ (v, n2, I2, L2, R2) ∧ Ev L xs 3 89 79 [l0, l1, l2, l3, l4, l5] (v.toList ++ []) (n2, I2, L2, R2) r := ev_cS cm_89 [.ref a, .int x, .int y] dX7_cut_76 rfl rfl rfl (Nat.le_of_ble_eq_true rfl) (rka_lt rfl (by decide)) (Nat.le_of_ble_eq_true rfl)
theorem x89_79 : Ev L xs ρ 89 79 [some (.ref a), l1, l2, l3, l4, l5] st σ r ↔ Ev L xs ρ 89 80 [some (.ref a), l1, l2, l3, l4, l5] (.ref a :: st) σ r := ev_aload_n cm_89 dX7_cut_79 rfl rfl
theorem x89_80 : Ev L xs ρ 89 80 [l0, l1, l2, l3, l4, l5] (.ref a :: st) (n, I, Lm, Rm) r ↔ (a < n ∧ shp a = (0, 7)) ∧ Ev L xs ρ 89 83 [l0, l1, l2, l3, l4, l5] (rfv (Rm a 2) :: st) (n, I, Lm, Rm) r := ev_gtR cm_89 dX7_cut_80 rfl rfl
theorem x89_83 : Ev L xs ρ 89 83 [some (.ref a), l1, l2, l3, l4, l5] st σ r ↔ Ev L xs ρ 89 84 [some (.ref a), l1, l2, l3, l4, l5] (.ref a :: st) σ r := ev_aload_n cm_89 dX7_cut_83 rfl rfl
theorem x89_84 : Ev L xs ρ 89 84 [l0, l1, l2, l3, l4, l5] (.ref a :: st) (n, I, Lm, Rm) r ↔ (a < n ∧ shp a = (0, 7)) ∧ Ev L xs ρ 89 87 [l0, l1, l2, l3, l4, l5] (.int (I a 5) :: st) (n, I, Lm, Rm) r := ev_gtI cm_89 dX7_cut_84 rfl rfl
theorem x89_87 : Ev L xs ρ 89 87 [l0, l1, some (.int x), l3, l4, l5] st σ r ↔ Ev L xs ρ 89 88 [l0, l1, some (.int x), l3, l4, l5] (.int x :: st) σ r := ev_iload_n cm_89 dX7_cut_87 rfl rfl
theorem x89_88 : Ev L xs 3 89 88 [l0, l1, l2, l3, l4, l5] (.int y :: .int x :: .ref a :: []) σ r ↔ ∃ v n2 I2 L2 R2, Em L xs 161 [.ref a, .int x, .int y] σ (v, n2, I2, L2, R2) ∧ Ev L xs 3 89 91 [l0, l1, l2, l3, l4, l5] (v.toList ++ []) (n2, I2, L2, R2) r := ev_cS cm_89 [.ref a, .int x, .int y] dX7_cut_88 rfl rfl rfl (Nat.le_of_ble_eq_true rfl) (rka_lt rfl (by decide)) (Nat.le_of_ble_eq_true rfl)
theorem x89_91 : Ev L xs ρ 89 91 [l0, l1, l2, l3, l4, l5] [] σ r ↔ r = (none, σ) := ev_retv cm_89 dX7_cut_91 rfl
theorem cm_90 : mcd 90 = cX7_isLetter := rfl
theorem em_90 : Em L xs 90 [.int x] σ r ↔ Ev L xs 0 90 0 [some (.int x)] [] σ r := Iff.rfl
theorem x90_0 : Ev L xs ρ 90 0 [some (.int x)] st σ r ↔ Ev L xs ρ 90 1 [some (.int x)] (.int x :: st) σ r := ev_iload_n cm_90 dX7_isLetter_0 rfl rfl
theorem x90_1 : Ev L xs ρ 90 1 [l0] st σ r ↔ Ev L xs ρ 90 3 [l0] (.int (97) :: st) σ r := ev_bipush cm_90 dX7_isLetter_1 (by decide)
theorem x90_3 : Ev L xs ρ 90 3 [l0] (.int y :: .int x :: st) σ r ↔ if x < y then Ev L xs ρ 90 16 [l0] st σ r else Ev L xs ρ 90 6 [l0] st σ r := ev_iclt cm_90 dX7_isLetter_3 (by decide)
theorem x90_6 : Ev L xs ρ 90 6 [some (.int x)] st σ r ↔ Ev L xs ρ 90 7 [some (.int x)] (.int x :: st) σ r := ev_iload_n cm_90 dX7_isLetter_6 rfl rfl
theorem x90_7 : Ev L xs ρ 90 7 [l0] st σ r ↔ Ev L xs ρ 90 9 [l0] (.int (122) :: st) σ r := ev_bipush cm_90 dX7_isLetter_7 (by decide)
theorem x90_9 : Ev L xs ρ 90 9 [l0] (.int y :: .int x :: st) σ r ↔ if y < x then Ev L xs ρ 90 16 [l0] st σ r else Ev L xs ρ 90 12 [l0] st σ r := ev_icgt cm_90 dX7_isLetter_9 (by decide)
theorem x90_12 : Ev L xs ρ 90 12 [l0] st σ r ↔ Ev L xs ρ 90 13 [l0] (.int (1) :: st) σ r := ev_iconst cm_90 dX7_isLetter_12 (by decide)
theorem x90_13 : Ev L xs ρ 90 13 [l0] st σ r ↔ Ev L xs ρ 90 17 [l0] st σ r := ev_goto cm_90 dX7_isLetter_13 (by decide)
theorem x90_16 : Ev L xs ρ 90 16 [l0] st σ r ↔ Ev L xs ρ 90 17 [l0] (.int (0) :: st) σ r := ev_iconst cm_90 dX7_isLetter_16 (by decide)
theorem x90_17 : Ev L xs ρ 90 17 [l0] [.int x] σ r ↔ (x = 0 ∨ x = 1) ∧ r = (some (.int x), σ) := ev_retz cm_90 dX7_isLetter_17 rfl
theorem cm_91 : mcd 91 = cX7_isDigit := rfl
theorem em_91 : Em L xs 91 [.int x] σ r ↔ Ev L xs 0 91 0 [some (.int x)] [] σ r := Iff.rfl
theorem x91_0 : Ev L xs ρ 91 0 [some (.int x)] st σ r ↔ Ev L xs ρ 91 1 [some (.int x)] (.int x :: st) σ r := ev_iload_n cm_91 dX7_isDigit_0 rfl rfl
theorem x91_1 : Ev L xs ρ 91 1 [l0] st σ r ↔ Ev L xs ρ 91 3 [l0] (.int (48) :: st) σ r := ev_bipush cm_91 dX7_isDigit_1 (by decide)
theorem x91_3 : Ev L xs ρ 91 3 [l0] (.int y :: .int x :: st) σ r ↔ if x < y then Ev L xs ρ 91 16 [l0] st σ r else Ev L xs ρ 91 6 [l0] st σ r := ev_iclt cm_91 dX7_isDigit_3 (by decide)
theorem x91_6 : Ev L xs ρ 91 6 [some (.int x)] st σ r ↔ Ev L xs ρ 91 7 [some (.int x)] (.int x :: st) σ r := ev_iload_n cm_91 dX7_isDigit_6 rfl rfl
theorem x91_7 : Ev L xs ρ 91 7 [l0] st σ r ↔ Ev L xs ρ 91 9 [l0] (.int (57) :: st) σ r := ev_bipush cm_91 dX7_isDigit_7 (by decide)
theorem x91_9 : Ev L xs ρ 91 9 [l0] (.int y :: .int x :: st) σ r ↔ if y < x then Ev L xs ρ 91 16 [l0] st σ r else Ev L xs ρ 91 12 [l0] st σ r := ev_icgt cm_91 dX7_isDigit_9 (by decide)
theorem x91_12 : Ev L xs ρ 91 12 [l0] st σ r ↔ Ev L xs ρ 91 13 [l0] (.int (1) :: st) σ r := ev_iconst cm_91 dX7_isDigit_12 (by decide)
theorem x91_13 : Ev L xs ρ 91 13 [l0] st σ r ↔ Ev L xs ρ 91 17 [l0] st σ r := ev_goto cm_91 dX7_isDigit_13 (by decide)
theorem x91_16 : Ev L xs ρ 91 16 [l0] st σ r ↔ Ev L xs ρ 91 17 [l0] (.int (0) :: st) σ r := ev_iconst cm_91 dX7_isDigit_16 (by decide)
theorem x91_17 : Ev L xs ρ 91 17 [l0] [.int x] σ r ↔ (x = 0 ∨ x = 1) ∧ r = (some (.int x), σ) := ev_retz cm_91 dX7_isDigit_17 rfl
theorem cm_92 : mcd 92 = cX7_spanAt := rfl
theorem em_92 : Em L xs 92 [.ref a, .int x, .int y] σ r ↔ Ev L xs 1 92 0 [some (.ref a), some (.int x), some (.int y), none, none, none, none] [] σ r := Iff.rfl
theorem x92_0 : Ev L xs ρ 92 0 [some (.ref a), l1, l2, l3, l4, l5, l6] st σ r ↔ Ev L xs ρ 92 1 [some (.ref a), l1, l2, l3, l4, l5, l6] (.ref a :: st) σ r := ev_aload_n cm_92 dX7_spanAt_0 rfl rfl
theorem x92_1 : Ev L xs ρ 92 1 [l0, l1, some (.int x), l3, l4, l5, l6] st σ r ↔ Ev L xs ρ 92 2 [l0, l1, some (.int x), l3, l4, l5, l6] (.int x :: st) σ r := ev_iload_n cm_92 dX7_spanAt_1 rfl rfl
theorem x92_2 : Ev L xs 1 92 2 [l0, l1, l2, l3, l4, l5, l6] (.int x :: .ref a :: []) σ r ↔ ∃ v n2 I2 L2 R2, Em L xs 160 [.ref a, .int x] σ (v, n2, I2, L2, R2) ∧ Ev L xs 1 92 5 [l0, l1, l2, l3, l4, l5, l6] (v.toList ++ []) (n2, I2, L2, R2) r := ev_cS cm_92 [.ref a, .int x] dX7_spanAt_2 rfl rfl rfl (Nat.le_of_ble_eq_true rfl) (rka_lt rfl (by decide)) (Nat.le_of_ble_eq_true rfl)
theorem x92_5 : Ev L xs 1 92 5 [l0, l1, l2, l3, l4, l5, l6] (.int x :: []) σ r ↔ ∃ v n2 I2 L2 R2, Em L xs 90 [.int x] σ (v, n2, I2, L2, R2) ∧ Ev L xs 1 92 8 [l0, l1, l2, l3, l4, l5, l6] (v.toList ++ []) (n2, I2, L2, R2) r := ev_cS cm_92 [.int x] dX7_spanAt_5 rfl rfl rfl (Nat.le_of_ble_eq_true rfl) (rka_lt rfl (by decide)) (Nat.le_of_ble_eq_true rfl)
theorem x92_8 : Ev L xs ρ 92 8 [l0, l1, l2, l3, l4, l5, l6] (.int x :: st) σ r ↔ Ev L xs ρ 92 9 [l0, l1, l2, some (.int x), l4, l5, l6] st σ r := ev_istore_n cm_92 dX7_spanAt_8 rfl (Nat.le_of_ble_eq_true rfl)
theorem x92_9 : Ev L xs ρ 92 9 [some (.ref a), l1, l2, l3, l4, l5, l6] st σ r ↔ Ev L xs ρ 92 10 [some (.ref a), l1, l2, l3, l4, l5, l6] (.ref a :: st) σ r := ev_aload_n cm_92 dX7_spanAt_9 rfl rfl
theorem x92_10 : Ev L xs ρ 92 10 [l0, l1, some (.int x), l3, l4, l5, l6] st σ r ↔ Ev L xs ρ 92 11 [l0, l1, some (.int x), l3, l4, l5, l6] (.int x :: st) σ r := ev_iload_n cm_92 dX7_spanAt_10 rfl rfl
theorem x92_11 : Ev L xs 1 92 11 [l0, l1, l2, l3, l4, l5, l6] (.int x :: .ref a :: []) σ r ↔ ∃ v n2 I2 L2 R2, Em L xs 160 [.ref a, .int x] σ (v, n2, I2, L2, R2) ∧ Ev L xs 1 92 14 [l0, l1, l2, l3, l4, l5, l6] (v.toList ++ []) (n2, I2, L2, R2) r := ev_cS cm_92 [.ref a, .int x] dX7_spanAt_11 rfl rfl rfl (Nat.le_of_ble_eq_true rfl) (rka_lt rfl (by decide)) (Nat.le_of_ble_eq_true rfl)
theorem x92_14 : Ev L xs 1 92 14 [l0, l1, l2, l3, l4, l5, l6] (.int x :: []) σ r ↔ ∃ v n2 I2 L2 R2, Em L xs 91 [.int x] σ (v, n2, I2, L2, R2) ∧ Ev L xs 1 92 17 [l0, l1, l2, l3, l4, l5, l6] (v.toList ++ []) (n2, I2, L2, R2) r := ev_cS cm_92 [.int x] dX7_spanAt_14 rfl rfl rfl (Nat.le_of_ble_eq_true rfl) (rka_lt rfl (by decide)) (Nat.le_of_ble_eq_true rfl)
theorem x92_17 : Ev L xs ρ 92 17 [l0, l1, l2, l3, l4, l5, l6] (.int x :: st) σ r ↔ Ev L xs ρ 92 19 [l0, l1, l2, l3, some (.int x), l5, l6] st σ r := ev_istore cm_92 dX7_spanAt_17 (Nat.le_of_ble_eq_true rfl)
theorem x92_19 : Ev L xs ρ 92 19 [l0, l1, some (.int x), l3, l4, l5, l6] st σ r ↔ Ev L xs ρ 92 20 [l0, l1, some (.int x), l3, l4, l5, l6] (.int x :: st) σ r := ev_iload_n cm_92 dX7_spanAt_19 rfl rfl
theorem x92_20 : Ev L xs ρ 92 20 [l0, l1, l2, l3, l4, l5, l6] st σ r ↔ Ev L xs ρ 92 21 [l0, l1, l2, l3, l4, l5, l6] (.int (1) :: st) σ r := ev_iconst cm_92 dX7_spanAt_20 (by decide)
theorem x92_21 : Ev L xs ρ 92 21 [l0, l1, l2, l3, l4, l5, l6] (.int y :: .int x :: st) σ r ↔ Ev L xs ρ 92 22 [l0, l1, l2, l3, l4, l5, l6] (.int (x + y) :: st) σ r := ev_nx (ev_ex cm_92 dX7_spanAt_21 rfl rfl)
theorem x92_22 : Ev L xs ρ 92 22 [l0, l1, l2, l3, l4, l5, l6] (.int x :: st) σ r ↔ Ev L xs ρ 92 24 [l0, l1, l2, l3, l4, some (.int x), l6] st σ r := ev_istore cm_92 dX7_spanAt_22 (Nat.le_of_ble_eq_true rfl)
theorem x92_24 : Ev L xs ρ 92 24 [l0, l1, l2, l3, l4, some (.int x), l6] st σ r ↔ Ev L xs ρ 92 26 [l0, l1, l2, l3, l4, some (.int x), l6] (.int x :: st) σ r := ev_iload cm_92 dX7_spanAt_24 rfl
theorem x92_26 : Ev L xs ρ 92 26 [l0, some (.int x), l2, l3, l4, l5, l6] st σ r ↔ Ev L xs ρ 92 27 [l0, some (.int x), l2, l3, l4, l5, l6] (.int x :: st) σ r := ev_iload_n cm_92 dX7_spanAt_26 rfl rfl
theorem x92_27 : Ev L xs ρ 92 27 [l0, l1, l2, l3, l4, l5, l6] (.int y :: .int x :: st) σ r ↔ if y ≤ x then Ev L xs ρ 92 74 [l0, l1, l2, l3, l4, l5, l6] st σ r else Ev L xs ρ 92 30 [l0, l1, l2, l3, l4, l5, l6] st σ r := ev_icge cm_92 dX7_spanAt_27 (by decide)
theorem x92_30 : Ev L xs ρ 92 30 [some (.ref a), l1, l2, l3, l4, l5, l6] st σ r ↔ Ev L xs ρ 92 31 [some (.ref a), l1, l2, l3, l4, l5, l6] (.ref a :: st) σ r := ev_aload_n cm_92 dX7_spanAt_30 rfl rfl
theorem x92_31 : Ev L xs ρ 92 31 [l0, l1, l2, l3, l4, some (.int x), l6] st σ r ↔ Ev L xs ρ 92 33 [l0, l1, l2, l3, l4, some (.int x), l6] (.int x :: st) σ r := ev_iload cm_92 dX7_spanAt_31 rfl
theorem x92_33 : Ev L xs 1 92 33 [l0, l1, l2, l3, l4, l5, l6] (.int x :: .ref a :: []) σ r ↔ ∃ v n2 I2 L2 R2, Em L xs 160 [.ref a, .int x] σ (v, n2, I2, L2, R2) ∧ Ev L xs 1 92 36 [l0, l1, l2, l3, l4, l5, l6] (v.toList ++ []) (n2, I2, L2, R2) r := ev_cS cm_92 [.ref a, .int x] dX7_spanAt_33 rfl rfl rfl (Nat.le_of_ble_eq_true rfl) (rka_lt rfl (by decide)) (Nat.le_of_ble_eq_true rfl)
theorem x92_36 : Ev L xs ρ 92 36 [l0, l1, l2, l3, l4, l5, l6] (.int x :: st) σ r ↔ Ev L xs ρ 92 38 [l0, l1, l2, l3, l4, l5, some (.int x)] st σ r := ev_istore cm_92 dX7_spanAt_36 (Nat.le_of_ble_eq_true rfl)
theorem x92_38 : Ev L xs ρ 92 38 [l0, l1, l2, some (.int x), l4, l5, l6] st σ r ↔ Ev L xs ρ 92 39 [l0, l1, l2, some (.int x), l4, l5, l6] (.int x :: st) σ r := ev_iload_n cm_92 dX7_spanAt_38 rfl rfl
theorem x92_39 : Ev L xs ρ 92 39 [l0, l1, l2, l3, l4, l5, l6] (.int x :: st) σ r ↔ if x = 0 then Ev L xs ρ 92 50 [l0, l1, l2, l3, l4, l5, l6] st σ r else Ev L xs ρ 92 42 [l0, l1, l2, l3, l4, l5, l6] st σ r := ev_ifeq cm_92 dX7_spanAt_39 (by decide)
theorem x92_42 : Ev L xs ρ 92 42 [l0, l1, l2, l3, l4, l5, some (.int x)] st σ r ↔ Ev L xs ρ 92 44 [l0, l1, l2, l3, l4, l5, some (.int x)] (.int x :: st) σ r := ev_iload cm_92 dX7_spanAt_42 rfl
theorem x92_44 : Ev L xs 1 92 44 [l0, l1, l2, l3, l4, l5, l6] (.int x :: []) σ r ↔ ∃ v n2 I2 L2 R2, Em L xs 90 [.int x] σ (v, n2, I2, L2, R2) ∧ Ev L xs 1 92 47 [l0, l1, l2, l3, l4, l5, l6] (v.toList ++ []) (n2, I2, L2, R2) r := ev_cS cm_92 [.int x] dX7_spanAt_44 rfl rfl rfl (Nat.le_of_ble_eq_true rfl) (rka_lt rfl (by decide)) (Nat.le_of_ble_eq_true rfl)
theorem x92_47 : Ev L xs ρ 92 47 [l0, l1, l2, l3, l4, l5, l6] (.int x :: st) σ r ↔ if x = 0 then Ev L xs ρ 92 50 [l0, l1, l2, l3, l4, l5, l6] st σ r else Ev L xs ρ 92 68 [l0, l1, l2, l3, l4, l5, l6] st σ r := ev_ifne cm_92 dX7_spanAt_47 (by decide)
theorem x92_50 : Ev L xs ρ 92 50 [l0, l1, l2, l3, some (.int x), l5, l6] st σ r ↔ Ev L xs ρ 92 52 [l0, l1, l2, l3, some (.int x), l5, l6] (.int x :: st) σ r := ev_iload cm_92 dX7_spanAt_50 rfl
theorem x92_52 : Ev L xs ρ 92 52 [l0, l1, l2, l3, l4, l5, l6] (.int x :: st) σ r ↔ if x = 0 then Ev L xs ρ 92 63 [l0, l1, l2, l3, l4, l5, l6] st σ r else Ev L xs ρ 92 55 [l0, l1, l2, l3, l4, l5, l6] st σ r := ev_ifeq cm_92 dX7_spanAt_52 (by decide)
theorem x92_55 : Ev L xs ρ 92 55 [l0, l1, l2, l3, l4, l5, some (.int x)] st σ r ↔ Ev L xs ρ 92 57 [l0, l1, l2, l3, l4, l5, some (.int x)] (.int x :: st) σ r := ev_iload cm_92 dX7_spanAt_55 rfl
theorem x92_57 : Ev L xs 1 92 57 [l0, l1, l2, l3, l4, l5, l6] (.int x :: []) σ r ↔ ∃ v n2 I2 L2 R2, Em L xs 91 [.int x] σ (v, n2, I2, L2, R2) ∧ Ev L xs 1 92 60 [l0, l1, l2, l3, l4, l5, l6] (v.toList ++ []) (n2, I2, L2, R2) r := ev_cS cm_92 [.int x] dX7_spanAt_57 rfl rfl rfl (Nat.le_of_ble_eq_true rfl) (rka_lt rfl (by decide)) (Nat.le_of_ble_eq_true rfl)
theorem x92_60 : Ev L xs ρ 92 60 [l0, l1, l2, l3, l4, l5, l6] (.int x :: st) σ r ↔ if x = 0 then Ev L xs ρ 92 63 [l0, l1, l2, l3, l4, l5, l6] st σ r else Ev L xs ρ 92 68 [l0, l1, l2, l3, l4, l5, l6] st σ r := ev_ifne cm_92 dX7_spanAt_60 (by decide)
theorem x92_63 : Ev L xs ρ 92 63 [l0, l1, l2, l3, l4, some (.int x), l6] st σ r ↔ Ev L xs ρ 92 65 [l0, l1, l2, l3, l4, some (.int x), l6] (.int x :: st) σ r := ev_iload cm_92 dX7_spanAt_63 rfl
theorem x92_65 : Ev L xs ρ 92 65 [l0, l1, some (.int x), l3, l4, l5, l6] st σ r ↔ Ev L xs ρ 92 66 [l0, l1, some (.int x), l3, l4, l5, l6] (.int x :: st) σ r := ev_iload_n cm_92 dX7_spanAt_65 rfl rfl
theorem x92_66 : Ev L xs ρ 92 66 [l0, l1, l2, l3, l4, l5, l6] (.int y :: .int x :: st) σ r ↔ Ev L xs ρ 92 67 [l0, l1, l2, l3, l4, l5, l6] (.int (x - y) :: st) σ r := ev_nx (ev_ex cm_92 dX7_spanAt_66 rfl rfl)
theorem x92_67 : Ev L xs ρ 92 67 [l0, l1, l2, l3, l4, l5, l6] [.int x] σ r ↔ r = (some (.int x), σ) := ev_reti cm_92 dX7_spanAt_67 rfl
theorem x92_68 : Ev L xs ρ 92 68 [l0, l1, l2, l3, l4, some (.int x), l6] st σ r ↔ Ev L xs ρ 92 71 [l0, l1, l2, l3, l4, some (.int (x + (1))), l6] st σ r := ev_iinc cm_92 dX7_spanAt_68 rfl (by decide)
theorem x92_71 : Ev L xs ρ 92 71 [l0, l1, l2, l3, l4, l5, l6] st σ r ↔ Ev L xs ρ 92 24 [l0, l1, l2, l3, l4, l5, l6] st σ r := ev_goto cm_92 dX7_spanAt_71 (by decide)
theorem x92_74 : Ev L xs ρ 92 74 [l0, some (.int x), l2, l3, l4, l5, l6] st σ r ↔ Ev L xs ρ 92 75 [l0, some (.int x), l2, l3, l4, l5, l6] (.int x :: st) σ r := ev_iload_n cm_92 dX7_spanAt_74 rfl rfl
theorem x92_75 : Ev L xs ρ 92 75 [l0, l1, some (.int x), l3, l4, l5, l6] st σ r ↔ Ev L xs ρ 92 76 [l0, l1, some (.int x), l3, l4, l5, l6] (.int x :: st) σ r := ev_iload_n cm_92 dX7_spanAt_75 rfl rfl
theorem x92_76 : Ev L xs ρ 92 76 [l0, l1, l2, l3, l4, l5, l6] (.int y :: .int x :: st) σ r ↔ Ev L xs ρ 92 77 [l0, l1, l2, l3, l4, l5, l6] (.int (x - y) :: st) σ r := ev_nx (ev_ex cm_92 dX7_spanAt_76 rfl rfl)
theorem x92_77 : Ev L xs ρ 92 77 [l0, l1, l2, l3, l4, l5, l6] [.int x] σ r ↔ r = (some (.int x), σ) := ev_reti cm_92 dX7_spanAt_77 rfl
theorem cm_93 : mcd 93 = cX7_add := rfl
theorem em_93 : Em L xs 93 [.ref a, .ref b, .int x, .int y] σ r ↔ Ev L xs 2 93 0 [some (.ref a), some (.ref b), some (.int x), some (.int y), none, none, none, none] [] σ r := Iff.rfl
theorem x93_0 : Ev L xs ρ 93 0 [l0, some (.ref a), l2, l3, l4, l5, l6, l7] st σ r ↔ Ev L xs ρ 93 1 [l0, some (.ref a), l2, l3, l4, l5, l6, l7] (.ref a :: st) σ r := ev_aload_n cm_93 dX7_add_0 rfl rfl
theorem x93_1 : Ev L xs ρ 93 1 [l0, l1, some (.int x), l3, l4, l5, l6, l7] st σ r ↔ Ev L xs ρ 93 2 [l0, l1, some (.int x), l3, l4, l5, l6, l7] (.int x :: st) σ r := ev_iload_n cm_93 dX7_add_1 rfl rfl
theorem x93_2 : Ev L xs 2 93 2 [l0, l1, l2, l3, l4, l5, l6, l7] (.int x :: .ref a :: []) σ r ↔ ∃ v n2 I2 L2 R2, Em L xs 160 [.ref a, .int x] σ (v, n2, I2, L2, R2) ∧ Ev L xs 2 93 5 [l0, l1, l2, l3, l4, l5, l6, l7] (v.toList ++ []) (n2, I2, L2, R2) r := ev_cS cm_93 [.ref a, .int x] dX7_add_2 rfl rfl rfl (Nat.le_of_ble_eq_true rfl) (rka_lt rfl (by decide)) (Nat.le_of_ble_eq_true rfl)
theorem x93_5 : Ev L xs ρ 93 5 [l0, l1, l2, l3, l4, l5, l6, l7] (.int x :: st) σ r ↔ Ev L xs ρ 93 7 [l0, l1, l2, l3, some (.int x), l5, l6, l7] st σ r := ev_istore cm_93 dX7_add_5 (Nat.le_of_ble_eq_true rfl)
theorem x93_7 : Ev L xs ρ 93 7 [some (.ref a), l1, l2, l3, l4, l5, l6, l7] st σ r ↔ Ev L xs ρ 93 8 [some (.ref a), l1, l2, l3, l4, l5, l6, l7] (.ref a :: st) σ r := ev_aload_n cm_93 dX7_add_7 rfl rfl
theorem x93_8 : Ev L xs ρ 93 8 [l0, l1, some (.int x), l3, l4, l5, l6, l7] st σ r ↔ Ev L xs ρ 93 9 [l0, l1, some (.int x), l3, l4, l5, l6, l7] (.int x :: st) σ r := ev_iload_n cm_93 dX7_add_8 rfl rfl
theorem x93_9 : Ev L xs 2 93 9 [l0, l1, l2, l3, l4, l5, l6, l7] (.int x :: .ref a :: []) (n, I, Lm, Rm) r ↔ (a < n ∧ shp a = (0, 7)) ∧ ∃ v n2 I2 L2 R2, Em L xs 94 [.ref a, .int x] (n, I, Lm, Rm) (v, n2, I2, L2, R2) ∧ Ev L xs 2 93 12 [l0, l1, l2, l3, l4, l5, l6, l7] (v.toList ++ []) (n2, I2, L2, R2) r := ev_cV cm_93 [.int x] dX7_add_9 rfl rfl rfl rfl (Nat.le_of_ble_eq_true rfl) (rka_lt rfl (by decide)) (Nat.le_of_ble_eq_true rfl)
theorem x93_12 : Ev L xs ρ 93 12 [l0, l1, l2, l3, l4, l5, l6, l7] (.int x :: st) σ r ↔ Ev L xs ρ 93 14 [l0, l1, l2, l3, l4, some (.int x), l6, l7] st σ r := ev_istore cm_93 dX7_add_12 (Nat.le_of_ble_eq_true rfl)
theorem x93_14 : Ev L xs ρ 93 14 [l0, l1, l2, l3, some (.int x), l5, l6, l7] st σ r ↔ Ev L xs ρ 93 16 [l0, l1, l2, l3, some (.int x), l5, l6, l7] (.int x :: st) σ r := ev_iload cm_93 dX7_add_14 rfl
theorem x93_16 : Ev L xs 2 93 16 [l0, l1, l2, l3, l4, l5, l6, l7] (.int x :: []) σ r ↔ ∃ v n2 I2 L2 R2, Em L xs 90 [.int x] σ (v, n2, I2, L2, R2) ∧ Ev L xs 2 93 19 [l0, l1, l2, l3, l4, l5, l6, l7] (v.toList ++ []) (n2, I2, L2, R2) r := ev_cS cm_93 [.int x] dX7_add_16 rfl rfl rfl (Nat.le_of_ble_eq_true rfl) (rka_lt rfl (by decide)) (Nat.le_of_ble_eq_true rfl)
theorem x93_19 : Ev L xs ρ 93 19 [l0, l1, l2, l3, l4, l5, l6, l7] (.int x :: st) σ r ↔ if x = 0 then Ev L xs ρ 93 103 [l0, l1, l2, l3, l4, l5, l6, l7] st σ r else Ev L xs ρ 93 22 [l0, l1, l2, l3, l4, l5, l6, l7] st σ r := ev_ifeq cm_93 dX7_add_19 (by decide)
theorem x93_22 : Ev L xs ρ 93 22 [l0, some (.ref a), l2, l3, l4, l5, l6, l7] st σ r ↔ Ev L xs ρ 93 23 [l0, some (.ref a), l2, l3, l4, l5, l6, l7] (.ref a :: st) σ r := ev_aload_n cm_93 dX7_add_22 rfl rfl
theorem x93_23 : Ev L xs ρ 93 23 [l0, l1, some (.int x), l3, l4, l5, l6, l7] st σ r ↔ Ev L xs ρ 93 24 [l0, l1, some (.int x), l3, l4, l5, l6, l7] (.int x :: st) σ r := ev_iload_n cm_93 dX7_add_23 rfl rfl
theorem x93_24 : Ev L xs ρ 93 24 [l0, l1, l2, some (.int x), l4, l5, l6, l7] st σ r ↔ Ev L xs ρ 93 25 [l0, l1, l2, some (.int x), l4, l5, l6, l7] (.int x :: st) σ r := ev_iload_n cm_93 dX7_add_24 rfl rfl
theorem x93_25 : Ev L xs 2 93 25 [l0, l1, l2, l3, l4, l5, l6, l7] (.int y :: .int x :: .ref a :: []) σ r ↔ ∃ v n2 I2 L2 R2, Em L xs 95 [.ref a, .int x, .int y] σ (v, n2, I2, L2, R2) ∧ Ev L xs 2 93 28 [l0, l1, l2, l3, l4, l5, l6, l7] (v.toList ++ []) (n2, I2, L2, R2) r := ev_cS cm_93 [.ref a, .int x, .int y] dX7_add_25 rfl rfl rfl (Nat.le_of_ble_eq_true rfl) (rka_lt rfl (by decide)) (Nat.le_of_ble_eq_true rfl)
theorem x93_28 : Ev L xs ρ 93 28 [l0, l1, l2, l3, l4, l5, l6, l7] (.int x :: st) σ r ↔ Ev L xs ρ 93 30 [l0, l1, l2, l3, l4, l5, some (.int x), l7] st σ r := ev_istore cm_93 dX7_add_28 (Nat.le_of_ble_eq_true rfl)
theorem x93_30 : Ev L xs ρ 93 30 [l0, l1, l2, some (.int x), l4, l5, l6, l7] st σ r ↔ Ev L xs ρ 93 31 [l0, l1, l2, some (.int x), l4, l5, l6, l7] (.int x :: st) σ r := ev_iload_n cm_93 dX7_add_30 rfl rfl
theorem x93_31 : Ev L xs ρ 93 31 [l0, l1, l2, l3, l4, l5, l6, l7] st σ r ↔ Ev L xs ρ 93 33 [l0, l1, l2, l3, l4, l5, l6, l7] (.int (6) :: st) σ r := ev_bipush cm_93 dX7_add_31 (by decide)
theorem x93_33 : Ev L xs ρ 93 33 [l0, l1, l2, l3, l4, l5, l6, l7] (.int y :: .int x :: st) σ r ↔ if x ≤ y then Ev L xs ρ 93 40 [l0, l1, l2, l3, l4, l5, l6, l7] st σ r else Ev L xs ρ 93 36 [l0, l1, l2, l3, l4, l5, l6, l7] st σ r := ev_icle cm_93 dX7_add_33 (by decide)
theorem x93_36 : Ev L xs ρ 93 36 [l0, l1, l2, l3, l4, l5, l6, l7] st σ r ↔ Ev L xs ρ 93 37 [l0, l1, l2, l3, l4, l5, l6, l7] (.int (-1) :: st) σ r := ev_iconst cm_93 dX7_add_36 (by decide)
theorem x93_37 : Ev L xs ρ 93 37 [l0, l1, l2, l3, l4, l5, l6, l7] st σ r ↔ Ev L xs ρ 93 51 [l0, l1, l2, l3, l4, l5, l6, l7] st σ r := ev_goto cm_93 dX7_add_37 (by decide)
theorem x93_40 : Ev L xs ρ 93 40 [some (.ref a), l1, l2, l3, l4, l5, l6, l7] st σ r ↔ Ev L xs ρ 93 41 [some (.ref a), l1, l2, l3, l4, l5, l6, l7] (.ref a :: st) σ r := ev_aload_n cm_93 dX7_add_40 rfl rfl
theorem x93_41 : Ev L xs ρ 93 41 [l0, l1, l2, l3, l4, l5, l6, l7] (.ref a :: st) (n, I, Lm, Rm) r ↔ (a < n ∧ shp a = (0, 7)) ∧ Ev L xs ρ 93 44 [l0, l1, l2, l3, l4, l5, l6, l7] (rfv (Rm a 0) :: st) (n, I, Lm, Rm) r := ev_gtR cm_93 dX7_add_41 rfl rfl
theorem x93_44 : Ev L xs ρ 93 44 [l0, l1, l2, l3, l4, l5, l6, l7] st σ r ↔ Ev L xs ρ 93 46 [l0, l1, l2, l3, l4, l5, l6, l7] (.int (33) :: st) σ r := ev_bipush cm_93 dX7_add_44 (by decide)
theorem x93_46 : Ev L xs ρ 93 46 [l0, l1, l2, l3, l4, l5, some (.int x), l7] st σ r ↔ Ev L xs ρ 93 48 [l0, l1, l2, l3, l4, l5, some (.int x), l7] (.int x :: st) σ r := ev_iload cm_93 dX7_add_46 rfl
theorem x93_48 : Ev L xs 2 93 48 [l0, l1, l2, l3, l4, l5, l6, l7] (.int y :: .int x :: .ref a :: []) σ r ↔ ∃ v n2 I2 L2 R2, Em L xs 165 [.ref a, .int x, .int y] σ (v, n2, I2, L2, R2) ∧ Ev L xs 2 93 51 [l0, l1, l2, l3, l4, l5, l6, l7] (v.toList ++ []) (n2, I2, L2, R2) r := ev_cS cm_93 [.ref a, .int x, .int y] dX7_add_48 rfl rfl rfl (Nat.le_of_ble_eq_true rfl) (rka_lt rfl (by decide)) (Nat.le_of_ble_eq_true rfl)
theorem x93_51 : Ev L xs ρ 93 51 [l0, l1, l2, l3, l4, l5, l6, l7] (.int x :: st) σ r ↔ Ev L xs ρ 93 53 [l0, l1, l2, l3, l4, l5, l6, some (.int x)] st σ r := ev_istore cm_93 dX7_add_51 (Nat.le_of_ble_eq_true rfl)
theorem x93_53 : Ev L xs ρ 93 53 [some (.ref a), l1, l2, l3, l4, l5, l6, l7] st σ r ↔ Ev L xs ρ 93 54 [some (.ref a), l1, l2, l3, l4, l5, l6, l7] (.ref a :: st) σ r := ev_aload_n cm_93 dX7_add_53 rfl rfl
theorem x93_54 : Ev L xs ρ 93 54 [l0, l1, l2, l3, l4, l5, l6, l7] (.ref a :: st) (n, I, Lm, Rm) r ↔ (a < n ∧ shp a = (0, 7)) ∧ Ev L xs ρ 93 57 [l0, l1, l2, l3, l4, l5, l6, l7] (rfv (Rm a 1) :: st) (n, I, Lm, Rm) r := ev_gtR cm_93 dX7_add_54 rfl rfl
theorem x93_57 : Ev L xs ρ 93 57 [some (.ref a), l1, l2, l3, l4, l5, l6, l7] st σ r ↔ Ev L xs ρ 93 58 [some (.ref a), l1, l2, l3, l4, l5, l6, l7] (.ref a :: st) σ r := ev_aload_n cm_93 dX7_add_57 rfl rfl
theorem x93_58 : Ev L xs ρ 93 58 [l0, l1, l2, l3, l4, l5, l6, l7] (.ref a :: st) (n, I, Lm, Rm) r ↔ (a < n ∧ shp a = (0, 7)) ∧ Ev L xs ρ 93 61 [l0, l1, l2, l3, l4, l5, l6, l7] (.int (I a 5) :: st) (n, I, Lm, Rm) r := ev_gtI cm_93 dX7_add_58 rfl rfl
theorem x93_61 : Ev L xs ρ 93 61 [l0, l1, l2, l3, l4, some (.int x), l6, l7] st σ r ↔ Ev L xs ρ 93 63 [l0, l1, l2, l3, l4, some (.int x), l6, l7] (.int x :: st) σ r := ev_iload cm_93 dX7_add_61 rfl
theorem x93_63 : Ev L xs ρ 93 63 [l0, l1, l2, l3, l4, l5, l6, l7] (.int x :: st) σ r ↔ if x = 0 then Ev L xs ρ 93 71 [l0, l1, l2, l3, l4, l5, l6, l7] st σ r else Ev L xs ρ 93 66 [l0, l1, l2, l3, l4, l5, l6, l7] st σ r := ev_ifeq cm_93 dX7_add_63 (by decide)
theorem x93_66 : Ev L xs ρ 93 66 [l0, l1, l2, l3, l4, l5, l6, l7] st σ r ↔ Ev L xs ρ 93 68 [l0, l1, l2, l3, l4, l5, l6, l7] (.int (42) :: st) σ r := ev_bipush cm_93 dX7_add_66 (by decide)
theorem x93_68 : Ev L xs ρ 93 68 [l0, l1, l2, l3, l4, l5, l6, l7] st σ r ↔ Ev L xs ρ 93 84 [l0, l1, l2, l3, l4, l5, l6, l7] st σ r := ev_goto cm_93 dX7_add_68 (by decide)
theorem x93_71 : Ev L xs ρ 93 71 [l0, l1, l2, l3, l4, l5, l6, some (.int x)] st σ r ↔ Ev L xs ρ 93 73 [l0, l1, l2, l3, l4, l5, l6, some (.int x)] (.int x :: st) σ r := ev_iload cm_93 dX7_add_71 rfl
theorem x93_73 : Ev L xs ρ 93 73 [l0, l1, l2, l3, l4, l5, l6, l7] st σ r ↔ Ev L xs ρ 93 74 [l0, l1, l2, l3, l4, l5, l6, l7] (.int (-1) :: st) σ r := ev_iconst cm_93 dX7_add_73 (by decide)
theorem x93_74 : Ev L xs ρ 93 74 [l0, l1, l2, l3, l4, l5, l6, l7] (.int y :: .int x :: st) σ r ↔ if x = y then Ev L xs ρ 93 77 [l0, l1, l2, l3, l4, l5, l6, l7] st σ r else Ev L xs ρ 93 82 [l0, l1, l2, l3, l4, l5, l6, l7] st σ r := ev_icne cm_93 dX7_add_74 (by decide)
theorem x93_77 : Ev L xs ρ 93 77 [l0, l1, l2, l3, l4, l5, l6, l7] st σ r ↔ Ev L xs ρ 93 79 [l0, l1, l2, l3, l4, l5, l6, l7] (.int (40) :: st) σ r := ev_bipush cm_93 dX7_add_77 (by decide)
theorem x93_79 : Ev L xs ρ 93 79 [l0, l1, l2, l3, l4, l5, l6, l7] st σ r ↔ Ev L xs ρ 93 84 [l0, l1, l2, l3, l4, l5, l6, l7] st σ r := ev_goto cm_93 dX7_add_79 (by decide)
theorem x93_82 : Ev L xs ρ 93 82 [l0, l1, l2, l3, l4, l5, l6, some (.int x)] st σ r ↔ Ev L xs ρ 93 84 [l0, l1, l2, l3, l4, l5, l6, some (.int x)] (.int x :: st) σ r := ev_iload cm_93 dX7_add_82 rfl
theorem x93_84 : Ev L xs 2 93 84 [l0, l1, l2, l3, l4, l5, l6, l7] (.int y :: .int x :: .ref a :: []) σ r ↔ ∃ v n2 I2 L2 R2, Em L xs 161 [.ref a, .int x, .int y] σ (v, n2, I2, L2, R2) ∧ Ev L xs 2 93 87 [l0, l1, l2, l3, l4, l5, l6, l7] (v.toList ++ []) (n2, I2, L2, R2) r := ev_cS cm_93 [.ref a, .int x, .int y] dX7_add_84 rfl rfl rfl (Nat.le_of_ble_eq_true rfl) (rka_lt rfl (by decide)) (Nat.le_of_ble_eq_true rfl)
theorem x93_87 : Ev L xs ρ 93 87 [some (.ref a), l1, l2, l3, l4, l5, l6, l7] st σ r ↔ Ev L xs ρ 93 88 [some (.ref a), l1, l2, l3, l4, l5, l6, l7] (.ref a :: st) σ r := ev_aload_n cm_93 dX7_add_87 rfl rfl
theorem x93_88 : Ev L xs ρ 93 88 [l0, l1, l2, l3, l4, l5, l6, l7] (.ref a :: st) (n, I, Lm, Rm) r ↔ (a < n ∧ shp a = (0, 7)) ∧ Ev L xs ρ 93 91 [l0, l1, l2, l3, l4, l5, l6, l7] (rfv (Rm a 4) :: st) (n, I, Lm, Rm) r := ev_gtR cm_93 dX7_add_88 rfl rfl
theorem x93_91 : Ev L xs ρ 93 91 [some (.ref a), l1, l2, l3, l4, l5, l6, l7] st σ r ↔ Ev L xs ρ 93 92 [some (.ref a), l1, l2, l3, l4, l5, l6, l7] (.ref a :: st) σ r := ev_aload_n cm_93 dX7_add_91 rfl rfl
theorem x93_92 : Ev L xs ρ 93 92 [l0, l1, l2, l3, l4, l5, l6, l7] (.ref a :: st) (n, I, Lm, Rm) r ↔ (a < n ∧ shp a = (0, 7)) ∧ Ev L xs ρ 93 95 [l0, l1, l2, l3, l4, l5, l6, l7] (.int (I a 5) :: st) (n, I, Lm, Rm) r := ev_gtI cm_93 dX7_add_92 rfl rfl
theorem x93_95 : Ev L xs ρ 93 95 [l0, l1, l2, l3, l4, l5, some (.int x), l7] st σ r ↔ Ev L xs ρ 93 97 [l0, l1, l2, l3, l4, l5, some (.int x), l7] (.int x :: st) σ r := ev_iload cm_93 dX7_add_95 rfl
theorem x93_97 : Ev L xs 2 93 97 [l0, l1, l2, l3, l4, l5, l6, l7] (.int y :: .int x :: .ref a :: []) σ r ↔ ∃ v n2 I2 L2 R2, Em L xs 161 [.ref a, .int x, .int y] σ (v, n2, I2, L2, R2) ∧ Ev L xs 2 93 100 [l0, l1, l2, l3, l4, l5, l6, l7] (v.toList ++ []) (n2, I2, L2, R2) r := ev_cS cm_93 [.ref a, .int x, .int y] dX7_add_97 rfl rfl rfl (Nat.le_of_ble_eq_true rfl) (rka_lt rfl (by decide)) (Nat.le_of_ble_eq_true rfl)
theorem x93_100 : Ev L xs ρ 93 100 [l0, l1, l2, l3, l4, l5, l6, l7] st σ r ↔ Ev L xs ρ 93 171 [l0, l1, l2, l3, l4, l5, l6, l7] st σ r := ev_goto cm_93 dX7_add_100 (by decide)
theorem x93_103 : Ev L xs ρ 93 103 [l0, l1, l2, l3, some (.int x), l5, l6, l7] st σ r ↔ Ev L xs ρ 93 105 [l0, l1, l2, l3, some (.int x), l5, l6, l7] (.int x :: st) σ r := ev_iload cm_93 dX7_add_103 rfl
theorem x93_105 : Ev L xs 2 93 105 [l0, l1, l2, l3, l4, l5, l6, l7] (.int x :: []) σ r ↔ ∃ v n2 I2 L2 R2, Em L xs 91 [.int x] σ (v, n2, I2, L2, R2) ∧ Ev L xs 2 93 108 [l0, l1, l2, l3, l4, l5, l6, l7] (v.toList ++ []) (n2, I2, L2, R2) r := ev_cS cm_93 [.int x] dX7_add_105 rfl rfl rfl (Nat.le_of_ble_eq_true rfl) (rka_lt rfl (by decide)) (Nat.le_of_ble_eq_true rfl)
theorem x93_108 : Ev L xs ρ 93 108 [l0, l1, l2, l3, l4, l5, l6, l7] (.int x :: st) σ r ↔ if x = 0 then Ev L xs ρ 93 154 [l0, l1, l2, l3, l4, l5, l6, l7] st σ r else Ev L xs ρ 93 111 [l0, l1, l2, l3, l4, l5, l6, l7] st σ r := ev_ifeq cm_93 dX7_add_108 (by decide)
theorem x93_111 : Ev L xs ρ 93 111 [some (.ref a), l1, l2, l3, l4, l5, l6, l7] st σ r ↔ Ev L xs ρ 93 112 [some (.ref a), l1, l2, l3, l4, l5, l6, l7] (.ref a :: st) σ r := ev_aload_n cm_93 dX7_add_111 rfl rfl
theorem x93_112 : Ev L xs ρ 93 112 [l0, l1, l2, l3, l4, l5, l6, l7] (.ref a :: st) (n, I, Lm, Rm) r ↔ (a < n ∧ shp a = (0, 7)) ∧ Ev L xs ρ 93 115 [l0, l1, l2, l3, l4, l5, l6, l7] (rfv (Rm a 1) :: st) (n, I, Lm, Rm) r := ev_gtR cm_93 dX7_add_112 rfl rfl
theorem x93_115 : Ev L xs ρ 93 115 [some (.ref a), l1, l2, l3, l4, l5, l6, l7] st σ r ↔ Ev L xs ρ 93 116 [some (.ref a), l1, l2, l3, l4, l5, l6, l7] (.ref a :: st) σ r := ev_aload_n cm_93 dX7_add_115 rfl rfl
theorem x93_116 : Ev L xs ρ 93 116 [l0, l1, l2, l3, l4, l5, l6, l7] (.ref a :: st) (n, I, Lm, Rm) r ↔ (a < n ∧ shp a = (0, 7)) ∧ Ev L xs ρ 93 119 [l0, l1, l2, l3, l4, l5, l6, l7] (.int (I a 5) :: st) (n, I, Lm, Rm) r := ev_gtI cm_93 dX7_add_116 rfl rfl
theorem x93_119 : Ev L xs ρ 93 119 [l0, l1, l2, l3, l4, some (.int x), l6, l7] st σ r ↔ Ev L xs ρ 93 121 [l0, l1, l2, l3, l4, some (.int x), l6, l7] (.int x :: st) σ r := ev_iload cm_93 dX7_add_119 rfl
theorem x93_121 : Ev L xs ρ 93 121 [l0, l1, l2, l3, l4, l5, l6, l7] (.int x :: st) σ r ↔ if x = 0 then Ev L xs ρ 93 129 [l0, l1, l2, l3, l4, l5, l6, l7] st σ r else Ev L xs ρ 93 124 [l0, l1, l2, l3, l4, l5, l6, l7] st σ r := ev_ifeq cm_93 dX7_add_121 (by decide)
theorem x93_124 : Ev L xs ρ 93 124 [l0, l1, l2, l3, l4, l5, l6, l7] st σ r ↔ Ev L xs ρ 93 126 [l0, l1, l2, l3, l4, l5, l6, l7] (.int (42) :: st) σ r := ev_bipush cm_93 dX7_add_124 (by decide)
theorem x93_126 : Ev L xs ρ 93 126 [l0, l1, l2, l3, l4, l5, l6, l7] st σ r ↔ Ev L xs ρ 93 131 [l0, l1, l2, l3, l4, l5, l6, l7] st σ r := ev_goto cm_93 dX7_add_126 (by decide)
theorem x93_129 : Ev L xs ρ 93 129 [l0, l1, l2, l3, l4, l5, l6, l7] st σ r ↔ Ev L xs ρ 93 131 [l0, l1, l2, l3, l4, l5, l6, l7] (.int (41) :: st) σ r := ev_bipush cm_93 dX7_add_129 (by decide)
theorem x93_131 : Ev L xs 2 93 131 [l0, l1, l2, l3, l4, l5, l6, l7] (.int y :: .int x :: .ref a :: []) σ r ↔ ∃ v n2 I2 L2 R2, Em L xs 161 [.ref a, .int x, .int y] σ (v, n2, I2, L2, R2) ∧ Ev L xs 2 93 134 [l0, l1, l2, l3, l4, l5, l6, l7] (v.toList ++ []) (n2, I2, L2, R2) r := ev_cS cm_93 [.ref a, .int x, .int y] dX7_add_131 rfl rfl rfl (Nat.le_of_ble_eq_true rfl) (rka_lt rfl (by decide)) (Nat.le_of_ble_eq_true rfl)
theorem x93_134 : Ev L xs ρ 93 134 [some (.ref a), l1, l2, l3, l4, l5, l6, l7] st σ r ↔ Ev L xs ρ 93 135 [some (.ref a), l1, l2, l3, l4, l5, l6, l7] (.ref a :: st) σ r := ev_aload_n cm_93 dX7_add_134 rfl rfl
theorem x93_135 : Ev L xs ρ 93 135 [l0, l1, l2, l3, l4, l5, l6, l7] (.ref a :: st) (n, I, Lm, Rm) r ↔ (a < n ∧ shp a = (0, 7)) ∧ Ev L xs ρ 93 138 [l0, l1, l2, l3, l4, l5, l6, l7] (rfv (Rm a 4) :: st) (n, I, Lm, Rm) r := ev_gtR cm_93 dX7_add_135 rfl rfl
theorem x93_138 : Ev L xs ρ 93 138 [some (.ref a), l1, l2, l3, l4, l5, l6, l7] st σ r ↔ Ev L xs ρ 93 139 [some (.ref a), l1, l2, l3, l4, l5, l6, l7] (.ref a :: st) σ r := ev_aload_n cm_93 dX7_add_138 rfl rfl
theorem x93_139 : Ev L xs ρ 93 139 [l0, l1, l2, l3, l4, l5, l6, l7] (.ref a :: st) (n, I, Lm, Rm) r ↔ (a < n ∧ shp a = (0, 7)) ∧ Ev L xs ρ 93 142 [l0, l1, l2, l3, l4, l5, l6, l7] (.int (I a 5) :: st) (n, I, Lm, Rm) r := ev_gtI cm_93 dX7_add_139 rfl rfl
theorem x93_142 : Ev L xs ρ 93 142 [l0, some (.ref a), l2, l3, l4, l5, l6, l7] st σ r ↔ Ev L xs ρ 93 143 [l0, some (.ref a), l2, l3, l4, l5, l6, l7] (.ref a :: st) σ r := ev_aload_n cm_93 dX7_add_142 rfl rfl
theorem x93_143 : Ev L xs ρ 93 143 [l0, l1, some (.int x), l3, l4, l5, l6, l7] st σ r ↔ Ev L xs ρ 93 144 [l0, l1, some (.int x), l3, l4, l5, l6, l7] (.int x :: st) σ r := ev_iload_n cm_93 dX7_add_143 rfl rfl
theorem x93_144 : Ev L xs ρ 93 144 [l0, l1, l2, some (.int x), l4, l5, l6, l7] st σ r ↔ Ev L xs ρ 93 145 [l0, l1, l2, some (.int x), l4, l5, l6, l7] (.int x :: st) σ r := ev_iload_n cm_93 dX7_add_144 rfl rfl
theorem x93_145 : Ev L xs 2 93 145 [l0, l1, l2, l3, l4, l5, l6, l7] (.int z :: .int y :: .ref b :: .int x :: .ref a :: []) σ r ↔ ∃ v n2 I2 L2 R2, Em L xs 96 [.ref b, .int y, .int z] σ (v, n2, I2, L2, R2) ∧ Ev L xs 2 93 148 [l0, l1, l2, l3, l4, l5, l6, l7] (v.toList ++ (.int x :: .ref a :: [])) (n2, I2, L2, R2) r := ev_cS cm_93 [.ref b, .int y, .int z] dX7_add_145 rfl rfl rfl (Nat.le_of_ble_eq_true rfl) (rka_lt rfl (by decide)) (Nat.le_of_ble_eq_true rfl)
theorem x93_148 : Ev L xs 2 93 148 [l0, l1, l2, l3, l4, l5, l6, l7] (.int y :: .int x :: .ref a :: []) σ r ↔ ∃ v n2 I2 L2 R2, Em L xs 161 [.ref a, .int x, .int y] σ (v, n2, I2, L2, R2) ∧ Ev L xs 2 93 151 [l0, l1, l2, l3, l4, l5, l6, l7] (v.toList ++ []) (n2, I2, L2, R2) r := ev_cS cm_93 [.ref a, .int x, .int y] dX7_add_148 rfl rfl rfl (Nat.le_of_ble_eq_true rfl) (rka_lt rfl (by decide)) (Nat.le_of_ble_eq_true rfl)
theorem x93_151 : Ev L xs ρ 93 151 [l0, l1, l2, l3, l4, l5, l6, l7] st σ r ↔ Ev L xs ρ 93 171 [l0, l1, l2, l3, l4, l5, l6, l7] st σ r := ev_goto cm_93 dX7_add_151 (by decide)
theorem x93_154 : Ev L xs ρ 93 154 [some (.ref a), l1, l2, l3, l4, l5, l6, l7] st σ r ↔ Ev L xs ρ 93 155 [some (.ref a), l1, l2, l3, l4, l5, l6, l7] (.ref a :: st) σ r := ev_aload_n cm_93 dX7_add_154 rfl rfl
theorem x93_155 : Ev L xs ρ 93 155 [l0, l1, l2, l3, l4, l5, l6, l7] (.ref a :: st) (n, I, Lm, Rm) r ↔ (a < n ∧ shp a = (0, 7)) ∧ Ev L xs ρ 93 158 [l0, l1, l2, l3, l4, l5, l6, l7] (rfv (Rm a 1) :: st) (n, I, Lm, Rm) r := ev_gtR cm_93 dX7_add_155 rfl rfl
theorem x93_158 : Ev L xs ρ 93 158 [some (.ref a), l1, l2, l3, l4, l5, l6, l7] st σ r ↔ Ev L xs ρ 93 159 [some (.ref a), l1, l2, l3, l4, l5, l6, l7] (.ref a :: st) σ r := ev_aload_n cm_93 dX7_add_158 rfl rfl
theorem x93_159 : Ev L xs ρ 93 159 [l0, l1, l2, l3, l4, l5, l6, l7] (.ref a :: st) (n, I, Lm, Rm) r ↔ (a < n ∧ shp a = (0, 7)) ∧ Ev L xs ρ 93 162 [l0, l1, l2, l3, l4, l5, l6, l7] (.int (I a 5) :: st) (n, I, Lm, Rm) r := ev_gtI cm_93 dX7_add_159 rfl rfl
theorem x93_162 : Ev L xs ρ 93 162 [l0, l1, l2, l3, l4, l5, l6, l7] st σ r ↔ Ev L xs ρ 93 165 [l0, l1, l2, l3, l4, l5, l6, l7] (.int (256) :: st) σ r := ev_sipush cm_93 dX7_add_162 (by decide)
theorem x93_165 : Ev L xs ρ 93 165 [l0, l1, l2, l3, some (.int x), l5, l6, l7] st σ r ↔ Ev L xs ρ 93 167 [l0, l1, l2, l3, some (.int x), l5, l6, l7] (.int x :: st) σ r := ev_iload cm_93 dX7_add_165 rfl
theorem x93_167 : Ev L xs ρ 93 167 [l0, l1, l2, l3, l4, l5, l6, l7] (.int y :: .int x :: st) σ r ↔ Ev L xs ρ 93 168 [l0, l1, l2, l3, l4, l5, l6, l7] (.int (x + y) :: st) σ r := ev_nx (ev_ex cm_93 dX7_add_167 rfl rfl)
theorem x93_168 : Ev L xs 2 93 168 [l0, l1, l2, l3, l4, l5, l6, l7] (.int y :: .int x :: .ref a :: []) σ r ↔ ∃ v n2 I2 L2 R2, Em L xs 161 [.ref a, .int x, .int y] σ (v, n2, I2, L2, R2) ∧ Ev L xs 2 93 171 [l0, l1, l2, l3, l4, l5, l6, l7] (v.toList ++ []) (n2, I2, L2, R2) r := ev_cS cm_93 [.ref a, .int x, .int y] dX7_add_168 rfl rfl rfl (Nat.le_of_ble_eq_true rfl) (rka_lt rfl (by decide)) (Nat.le_of_ble_eq_true rfl)
theorem x93_171 : Ev L xs ρ 93 171 [some (.ref a), l1, l2, l3, l4, l5, l6, l7] st σ r ↔ Ev L xs ρ 93 172 [some (.ref a), l1, l2, l3, l4, l5, l6, l7] (.ref a :: st) σ r := ev_aload_n cm_93 dX7_add_171 rfl rfl
theorem x93_172 : Ev L xs ρ 93 172 [l0, l1, l2, l3, l4, l5, l6, l7] (.ref a :: st) (n, I, Lm, Rm) r ↔ (a < n ∧ shp a = (0, 7)) ∧ Ev L xs ρ 93 175 [l0, l1, l2, l3, l4, l5, l6, l7] (rfv (Rm a 2) :: st) (n, I, Lm, Rm) r := ev_gtR cm_93 dX7_add_172 rfl rfl
theorem x93_175 : Ev L xs ρ 93 175 [some (.ref a), l1, l2, l3, l4, l5, l6, l7] st σ r ↔ Ev L xs ρ 93 176 [some (.ref a), l1, l2, l3, l4, l5, l6, l7] (.ref a :: st) σ r := ev_aload_n cm_93 dX7_add_175 rfl rfl
theorem x93_176 : Ev L xs ρ 93 176 [l0, l1, l2, l3, l4, l5, l6, l7] (.ref a :: st) (n, I, Lm, Rm) r ↔ (a < n ∧ shp a = (0, 7)) ∧ Ev L xs ρ 93 179 [l0, l1, l2, l3, l4, l5, l6, l7] (.int (I a 5) :: st) (n, I, Lm, Rm) r := ev_gtI cm_93 dX7_add_176 rfl rfl
theorem x93_179 : Ev L xs ρ 93 179 [l0, l1, some (.int x), l3, l4, l5, l6, l7] st σ r ↔ Ev L xs ρ 93 180 [l0, l1, some (.int x), l3, l4, l5, l6, l7] (.int x :: st) σ r := ev_iload_n cm_93 dX7_add_179 rfl rfl
theorem x93_180 : Ev L xs 2 93 180 [l0, l1, l2, l3, l4, l5, l6, l7] (.int y :: .int x :: .ref a :: []) σ r ↔ ∃ v n2 I2 L2 R2, Em L xs 161 [.ref a, .int x, .int y] σ (v, n2, I2, L2, R2) ∧ Ev L xs 2 93 183 [l0, l1, l2, l3, l4, l5, l6, l7] (v.toList ++ []) (n2, I2, L2, R2) r := ev_cS cm_93 [.ref a, .int x, .int y] dX7_add_180 rfl rfl rfl (Nat.le_of_ble_eq_true rfl) (rka_lt rfl (by decide)) (Nat.le_of_ble_eq_true rfl)
theorem x93_183 : Ev L xs ρ 93 183 [some (.ref a), l1, l2, l3, l4, l5, l6, l7] st σ r ↔ Ev L xs ρ 93 184 [some (.ref a), l1, l2, l3, l4, l5, l6, l7] (.ref a :: st) σ r := ev_aload_n cm_93 dX7_add_183 rfl rfl
theorem x93_184 : Ev L xs ρ 93 184 [l0, l1, l2, l3, l4, l5, l6, l7] (.ref a :: st) (n, I, Lm, Rm) r ↔ (a < n ∧ shp a = (0, 7)) ∧ Ev L xs ρ 93 187 [l0, l1, l2, l3, l4, l5, l6, l7] (rfv (Rm a 3) :: st) (n, I, Lm, Rm) r := ev_gtR cm_93 dX7_add_184 rfl rfl
theorem x93_187 : Ev L xs ρ 93 187 [some (.ref a), l1, l2, l3, l4, l5, l6, l7] st σ r ↔ Ev L xs ρ 93 188 [some (.ref a), l1, l2, l3, l4, l5, l6, l7] (.ref a :: st) σ r := ev_aload_n cm_93 dX7_add_187 rfl rfl
theorem x93_188 : Ev L xs ρ 93 188 [l0, l1, l2, l3, l4, l5, l6, l7] (.ref a :: st) (n, I, Lm, Rm) r ↔ (a < n ∧ shp a = (0, 7)) ∧ Ev L xs ρ 93 191 [l0, l1, l2, l3, l4, l5, l6, l7] (.int (I a 5) :: st) (n, I, Lm, Rm) r := ev_gtI cm_93 dX7_add_188 rfl rfl
theorem x93_191 : Ev L xs ρ 93 191 [l0, l1, l2, some (.int x), l4, l5, l6, l7] st σ r ↔ Ev L xs ρ 93 192 [l0, l1, l2, some (.int x), l4, l5, l6, l7] (.int x :: st) σ r := ev_iload_n cm_93 dX7_add_191 rfl rfl
theorem x93_192 : Ev L xs 2 93 192 [l0, l1, l2, l3, l4, l5, l6, l7] (.int y :: .int x :: .ref a :: []) σ r ↔ ∃ v n2 I2 L2 R2, Em L xs 161 [.ref a, .int x, .int y] σ (v, n2, I2, L2, R2) ∧ Ev L xs 2 93 195 [l0, l1, l2, l3, l4, l5, l6, l7] (v.toList ++ []) (n2, I2, L2, R2) r := ev_cS cm_93 [.ref a, .int x, .int y] dX7_add_192 rfl rfl rfl (Nat.le_of_ble_eq_true rfl) (rka_lt rfl (by decide)) (Nat.le_of_ble_eq_true rfl)
theorem x93_195 : Ev L xs ρ 93 195 [some (.ref a), l1, l2, l3, l4, l5, l6, l7] st σ r ↔ Ev L xs ρ 93 196 [some (.ref a), l1, l2, l3, l4, l5, l6, l7] (.ref a :: st) σ r := ev_aload_n cm_93 dX7_add_195 rfl rfl
theorem x93_196 : Ev L xs ρ 93 196 [l0, l1, l2, l3, l4, l5, l6, l7] (.ref a :: st) σ r ↔ Ev L xs ρ 93 197 [l0, l1, l2, l3, l4, l5, l6, l7] (.ref a :: .ref a :: st) σ r := ev_nx (ev_ex cm_93 dX7_add_196 rfl rfl)
theorem x93_197 : Ev L xs ρ 93 197 [l0, l1, l2, l3, l4, l5, l6, l7] (.ref a :: st) (n, I, Lm, Rm) r ↔ (a < n ∧ shp a = (0, 7)) ∧ Ev L xs ρ 93 200 [l0, l1, l2, l3, l4, l5, l6, l7] (.int (I a 5) :: st) (n, I, Lm, Rm) r := ev_gtI cm_93 dX7_add_197 rfl rfl
theorem x93_200 : Ev L xs ρ 93 200 [l0, l1, l2, l3, l4, l5, l6, l7] st σ r ↔ Ev L xs ρ 93 201 [l0, l1, l2, l3, l4, l5, l6, l7] (.int (1) :: st) σ r := ev_iconst cm_93 dX7_add_200 (by decide)
theorem x93_201 : Ev L xs ρ 93 201 [l0, l1, l2, l3, l4, l5, l6, l7] (.int y :: .int x :: st) σ r ↔ Ev L xs ρ 93 202 [l0, l1, l2, l3, l4, l5, l6, l7] (.int (x + y) :: st) σ r := ev_nx (ev_ex cm_93 dX7_add_201 rfl rfl)
theorem x93_202 : Ev L xs ρ 93 202 [l0, l1, l2, l3, l4, l5, l6, l7] (.int x :: .ref a :: st) (n, I, Lm, Rm) r ↔ (a < n ∧ shp a = (0, 7)) ∧ Ev L xs ρ 93 205 [l0, l1, l2, l3, l4, l5, l6, l7] st (n, up2 I a 5 x, Lm, Rm) r := ev_ptI cm_93 dX7_add_202 rfl rfl (Or.inl rfl)
theorem x93_205 : Ev L xs ρ 93 205 [l0, l1, l2, l3, l4, l5, l6, l7] [] σ r ↔ r = (none, σ) := ev_retv cm_93 dX7_add_205 rfl
theorem cm_94 : mcd 94 = cX7_isStuck := rfl
theorem em_94 : Em L xs 94 [.ref a, .int x] σ r ↔ Ev L xs 1 94 0 [some (.ref a), some (.int x), none] [] σ r := Iff.rfl
theorem x94_0 : Ev L xs ρ 94 0 [some (.ref a), l1, l2] st σ r ↔ Ev L xs ρ 94 1 [some (.ref a), l1, l2] (.ref a :: st) σ r := ev_aload_n cm_94 dX7_isStuck_0 rfl rfl
theorem x94_1 : Ev L xs ρ 94 1 [l0, l1, l2] (.ref a :: st) (n, I, Lm, Rm) r ↔ (a < n ∧ shp a = (0, 7)) ∧ Ev L xs ρ 94 4 [l0, l1, l2] (.int (I a 5) :: st) (n, I, Lm, Rm) r := ev_gtI cm_94 dX7_isStuck_1 rfl rfl
theorem x94_4 : Ev L xs ρ 94 4 [l0, l1, l2] st σ r ↔ Ev L xs ρ 94 5 [l0, l1, l2] (.int (1) :: st) σ r := ev_iconst cm_94 dX7_isStuck_4 (by decide)
theorem x94_5 : Ev L xs ρ 94 5 [l0, l1, l2] (.int y :: .int x :: st) σ r ↔ Ev L xs ρ 94 6 [l0, l1, l2] (.int (x - y) :: st) σ r := ev_nx (ev_ex cm_94 dX7_isStuck_5 rfl rfl)
theorem x94_6 : Ev L xs ρ 94 6 [l0, l1, l2] (.int x :: st) σ r ↔ Ev L xs ρ 94 7 [l0, l1, some (.int x)] st σ r := ev_istore_n cm_94 dX7_isStuck_6 rfl (Nat.le_of_ble_eq_true rfl)
theorem x94_7 : Ev L xs ρ 94 7 [l0, l1, some (.int x)] st σ r ↔ Ev L xs ρ 94 8 [l0, l1, some (.int x)] (.int x :: st) σ r := ev_iload_n cm_94 dX7_isStuck_7 rfl rfl
theorem x94_8 : Ev L xs ρ 94 8 [l0, l1, l2] (.int x :: st) σ r ↔ if x < 0 then Ev L xs ρ 94 50 [l0, l1, l2] st σ r else Ev L xs ρ 94 11 [l0, l1, l2] st σ r := ev_iflt cm_94 dX7_isStuck_8 (by decide)
theorem x94_11 : Ev L xs ρ 94 11 [some (.ref a), l1, l2] st σ r ↔ Ev L xs ρ 94 12 [some (.ref a), l1, l2] (.ref a :: st) σ r := ev_aload_n cm_94 dX7_isStuck_11 rfl rfl
theorem x94_12 : Ev L xs ρ 94 12 [l0, l1, l2] (.ref a :: st) (n, I, Lm, Rm) r ↔ (a < n ∧ shp a = (0, 7)) ∧ Ev L xs ρ 94 15 [l0, l1, l2] (rfv (Rm a 1) :: st) (n, I, Lm, Rm) r := ev_gtR cm_94 dX7_isStuck_12 rfl rfl
theorem x94_15 : Ev L xs ρ 94 15 [l0, l1, some (.int x)] st σ r ↔ Ev L xs ρ 94 16 [l0, l1, some (.int x)] (.int x :: st) σ r := ev_iload_n cm_94 dX7_isStuck_15 rfl rfl
theorem x94_16 : Ev L xs 1 94 16 [l0, l1, l2] (.int x :: .ref a :: []) σ r ↔ ∃ v n2 I2 L2 R2, Em L xs 160 [.ref a, .int x] σ (v, n2, I2, L2, R2) ∧ Ev L xs 1 94 19 [l0, l1, l2] (v.toList ++ []) (n2, I2, L2, R2) r := ev_cS cm_94 [.ref a, .int x] dX7_isStuck_16 rfl rfl rfl (Nat.le_of_ble_eq_true rfl) (rka_lt rfl (by decide)) (Nat.le_of_ble_eq_true rfl)
theorem x94_19 : Ev L xs ρ 94 19 [l0, l1, l2] st σ r ↔ Ev L xs ρ 94 22 [l0, l1, l2] (.int (256) :: st) σ r := ev_sipush cm_94 dX7_isStuck_19 (by decide)
theorem x94_22 : Ev L xs ρ 94 22 [l0, l1, l2] (.int y :: .int x :: st) σ r ↔ if y ≤ x then Ev L xs ρ 94 50 [l0, l1, l2] st σ r else Ev L xs ρ 94 25 [l0, l1, l2] st σ r := ev_icge cm_94 dX7_isStuck_22 (by decide)
theorem x94_25 : Ev L xs ρ 94 25 [some (.ref a), l1, l2] st σ r ↔ Ev L xs ρ 94 26 [some (.ref a), l1, l2] (.ref a :: st) σ r := ev_aload_n cm_94 dX7_isStuck_25 rfl rfl
theorem x94_26 : Ev L xs ρ 94 26 [l0, l1, l2] (.ref a :: st) (n, I, Lm, Rm) r ↔ (a < n ∧ shp a = (0, 7)) ∧ Ev L xs ρ 94 29 [l0, l1, l2] (rfv (Rm a 2) :: st) (n, I, Lm, Rm) r := ev_gtR cm_94 dX7_isStuck_26 rfl rfl
theorem x94_29 : Ev L xs ρ 94 29 [l0, l1, some (.int x)] st σ r ↔ Ev L xs ρ 94 30 [l0, l1, some (.int x)] (.int x :: st) σ r := ev_iload_n cm_94 dX7_isStuck_29 rfl rfl
theorem x94_30 : Ev L xs 1 94 30 [l0, l1, l2] (.int x :: .ref a :: []) σ r ↔ ∃ v n2 I2 L2 R2, Em L xs 160 [.ref a, .int x] σ (v, n2, I2, L2, R2) ∧ Ev L xs 1 94 33 [l0, l1, l2] (v.toList ++ []) (n2, I2, L2, R2) r := ev_cS cm_94 [.ref a, .int x] dX7_isStuck_30 rfl rfl rfl (Nat.le_of_ble_eq_true rfl) (rka_lt rfl (by decide)) (Nat.le_of_ble_eq_true rfl)
theorem x94_33 : Ev L xs ρ 94 33 [some (.ref a), l1, l2] st σ r ↔ Ev L xs ρ 94 34 [some (.ref a), l1, l2] (.ref a :: st) σ r := ev_aload_n cm_94 dX7_isStuck_33 rfl rfl
theorem x94_34 : Ev L xs ρ 94 34 [l0, l1, l2] (.ref a :: st) (n, I, Lm, Rm) r ↔ (a < n ∧ shp a = (0, 7)) ∧ Ev L xs ρ 94 37 [l0, l1, l2] (rfv (Rm a 3) :: st) (n, I, Lm, Rm) r := ev_gtR cm_94 dX7_isStuck_34 rfl rfl
theorem x94_37 : Ev L xs ρ 94 37 [l0, l1, some (.int x)] st σ r ↔ Ev L xs ρ 94 38 [l0, l1, some (.int x)] (.int x :: st) σ r := ev_iload_n cm_94 dX7_isStuck_37 rfl rfl
theorem x94_38 : Ev L xs 1 94 38 [l0, l1, l2] (.int y :: .ref a :: .int x :: []) σ r ↔ ∃ v n2 I2 L2 R2, Em L xs 160 [.ref a, .int y] σ (v, n2, I2, L2, R2) ∧ Ev L xs 1 94 41 [l0, l1, l2] (v.toList ++ (.int x :: [])) (n2, I2, L2, R2) r := ev_cS cm_94 [.ref a, .int y] dX7_isStuck_38 rfl rfl rfl (Nat.le_of_ble_eq_true rfl) (rka_lt rfl (by decide)) (Nat.le_of_ble_eq_true rfl)
theorem x94_41 : Ev L xs ρ 94 41 [l0, l1, l2] (.int y :: .int x :: st) σ r ↔ Ev L xs ρ 94 42 [l0, l1, l2] (.int (x + y) :: st) σ r := ev_nx (ev_ex cm_94 dX7_isStuck_41 rfl rfl)
theorem x94_42 : Ev L xs ρ 94 42 [l0, some (.int x), l2] st σ r ↔ Ev L xs ρ 94 43 [l0, some (.int x), l2] (.int x :: st) σ r := ev_iload_n cm_94 dX7_isStuck_42 rfl rfl
theorem x94_43 : Ev L xs ρ 94 43 [l0, l1, l2] (.int y :: .int x :: st) σ r ↔ if x = y then Ev L xs ρ 94 46 [l0, l1, l2] st σ r else Ev L xs ρ 94 50 [l0, l1, l2] st σ r := ev_icne cm_94 dX7_isStuck_43 (by decide)
theorem x94_46 : Ev L xs ρ 94 46 [l0, l1, l2] st σ r ↔ Ev L xs ρ 94 47 [l0, l1, l2] (.int (1) :: st) σ r := ev_iconst cm_94 dX7_isStuck_46 (by decide)
theorem x94_47 : Ev L xs ρ 94 47 [l0, l1, l2] st σ r ↔ Ev L xs ρ 94 51 [l0, l1, l2] st σ r := ev_goto cm_94 dX7_isStuck_47 (by decide)
theorem x94_50 : Ev L xs ρ 94 50 [l0, l1, l2] st σ r ↔ Ev L xs ρ 94 51 [l0, l1, l2] (.int (0) :: st) σ r := ev_iconst cm_94 dX7_isStuck_50 (by decide)
theorem x94_51 : Ev L xs ρ 94 51 [l0, l1, l2] [.int x] σ r ↔ (x = 0 ∨ x = 1) ∧ r = (some (.int x), σ) := ev_retz cm_94 dX7_isStuck_51 rfl
theorem cm_95 : mcd 95 = cX7_nameAt := rfl
theorem em_95 : Em L xs 95 [.ref a, .int x, .int y] σ r ↔ Ev L xs 1 95 0 [some (.ref a), some (.int x), some (.int y), none, none] [] σ r := Iff.rfl
theorem x95_0 : Ev L xs ρ 95 0 [l0, l1, l2, l3, l4] st σ r ↔ Ev L xs ρ 95 1 [l0, l1, l2, l3, l4] (.int (0) :: st) σ r := ev_iconst cm_95 dX7_nameAt_0 (by decide)
theorem x95_1 : Ev L xs ρ 95 1 [l0, l1, l2, l3, l4] (.int x :: st) σ r ↔ Ev L xs ρ 95 2 [l0, l1, l2, some (.int x), l4] st σ r := ev_istore_n cm_95 dX7_nameAt_1 rfl (Nat.le_of_ble_eq_true rfl)
theorem x95_2 : Ev L xs ρ 95 2 [l0, l1, l2, l3, l4] st σ r ↔ Ev L xs ρ 95 3 [l0, l1, l2, l3, l4] (.int (0) :: st) σ r := ev_iconst cm_95 dX7_nameAt_2 (by decide)
theorem x95_3 : Ev L xs ρ 95 3 [l0, l1, l2, l3, l4] (.int x :: st) σ r ↔ Ev L xs ρ 95 5 [l0, l1, l2, l3, some (.int x)] st σ r := ev_istore cm_95 dX7_nameAt_3 (Nat.le_of_ble_eq_true rfl)
theorem x95_5 : Ev L xs ρ 95 5 [l0, l1, l2, l3, some (.int x)] st σ r ↔ Ev L xs ρ 95 7 [l0, l1, l2, l3, some (.int x)] (.int x :: st) σ r := ev_iload cm_95 dX7_nameAt_5 rfl
theorem x95_7 : Ev L xs ρ 95 7 [l0, l1, l2, l3, l4] st σ r ↔ Ev L xs ρ 95 9 [l0, l1, l2, l3, l4] (.int (6) :: st) σ r := ev_bipush cm_95 dX7_nameAt_7 (by decide)
theorem x95_9 : Ev L xs ρ 95 9 [l0, l1, l2, l3, l4] (.int y :: .int x :: st) σ r ↔ if y ≤ x then Ev L xs ρ 95 47 [l0, l1, l2, l3, l4] st σ r else Ev L xs ρ 95 12 [l0, l1, l2, l3, l4] st σ r := ev_icge cm_95 dX7_nameAt_9 (by decide)
theorem x95_12 : Ev L xs ρ 95 12 [l0, l1, l2, some (.int x), l4] st σ r ↔ Ev L xs ρ 95 13 [l0, l1, l2, some (.int x), l4] (.int x :: st) σ r := ev_iload_n cm_95 dX7_nameAt_12 rfl rfl
theorem x95_13 : Ev L xs ρ 95 13 [l0, l1, l2, l3, l4] st σ r ↔ Ev L xs ρ 95 15 [l0, l1, l2, l3, l4] (.int (27) :: st) σ r := ev_bipush cm_95 dX7_nameAt_13 (by decide)
theorem x95_15 : Ev L xs ρ 95 15 [l0, l1, l2, l3, l4] (.int y :: .int x :: st) σ r ↔ Ev L xs ρ 95 16 [l0, l1, l2, l3, l4] (.int (x * y) :: st) σ r := ev_nx (ev_ex cm_95 dX7_nameAt_15 rfl rfl)
theorem x95_16 : Ev L xs ρ 95 16 [l0, l1, l2, l3, some (.int x)] st σ r ↔ Ev L xs ρ 95 18 [l0, l1, l2, l3, some (.int x)] (.int x :: st) σ r := ev_iload cm_95 dX7_nameAt_16 rfl
theorem x95_18 : Ev L xs ρ 95 18 [l0, l1, some (.int x), l3, l4] st σ r ↔ Ev L xs ρ 95 19 [l0, l1, some (.int x), l3, l4] (.int x :: st) σ r := ev_iload_n cm_95 dX7_nameAt_18 rfl rfl
theorem x95_19 : Ev L xs ρ 95 19 [l0, l1, l2, l3, l4] (.int y :: .int x :: st) σ r ↔ if y ≤ x then Ev L xs ρ 95 38 [l0, l1, l2, l3, l4] st σ r else Ev L xs ρ 95 22 [l0, l1, l2, l3, l4] st σ r := ev_icge cm_95 dX7_nameAt_19 (by decide)
theorem x95_22 : Ev L xs ρ 95 22 [some (.ref a), l1, l2, l3, l4] st σ r ↔ Ev L xs ρ 95 23 [some (.ref a), l1, l2, l3, l4] (.ref a :: st) σ r := ev_aload_n cm_95 dX7_nameAt_22 rfl rfl
theorem x95_23 : Ev L xs ρ 95 23 [l0, some (.int x), l2, l3, l4] st σ r ↔ Ev L xs ρ 95 24 [l0, some (.int x), l2, l3, l4] (.int x :: st) σ r := ev_iload_n cm_95 dX7_nameAt_23 rfl rfl
theorem x95_24 : Ev L xs ρ 95 24 [l0, l1, l2, l3, some (.int x)] st σ r ↔ Ev L xs ρ 95 26 [l0, l1, l2, l3, some (.int x)] (.int x :: st) σ r := ev_iload cm_95 dX7_nameAt_24 rfl
theorem x95_26 : Ev L xs ρ 95 26 [l0, l1, l2, l3, l4] (.int y :: .int x :: st) σ r ↔ Ev L xs ρ 95 27 [l0, l1, l2, l3, l4] (.int (x + y) :: st) σ r := ev_nx (ev_ex cm_95 dX7_nameAt_26 rfl rfl)
theorem x95_27 : Ev L xs 1 95 27 [l0, l1, l2, l3, l4] (.int y :: .ref a :: .int x :: []) σ r ↔ ∃ v n2 I2 L2 R2, Em L xs 160 [.ref a, .int y] σ (v, n2, I2, L2, R2) ∧ Ev L xs 1 95 30 [l0, l1, l2, l3, l4] (v.toList ++ (.int x :: [])) (n2, I2, L2, R2) r := ev_cS cm_95 [.ref a, .int y] dX7_nameAt_27 rfl rfl rfl (Nat.le_of_ble_eq_true rfl) (rka_lt rfl (by decide)) (Nat.le_of_ble_eq_true rfl)
theorem x95_30 : Ev L xs ρ 95 30 [l0, l1, l2, l3, l4] st σ r ↔ Ev L xs ρ 95 32 [l0, l1, l2, l3, l4] (.int (97) :: st) σ r := ev_bipush cm_95 dX7_nameAt_30 (by decide)
theorem x95_32 : Ev L xs ρ 95 32 [l0, l1, l2, l3, l4] (.int y :: .int x :: st) σ r ↔ Ev L xs ρ 95 33 [l0, l1, l2, l3, l4] (.int (x - y) :: st) σ r := ev_nx (ev_ex cm_95 dX7_nameAt_32 rfl rfl)
theorem x95_33 : Ev L xs ρ 95 33 [l0, l1, l2, l3, l4] st σ r ↔ Ev L xs ρ 95 34 [l0, l1, l2, l3, l4] (.int (1) :: st) σ r := ev_iconst cm_95 dX7_nameAt_33 (by decide)
theorem x95_34 : Ev L xs ρ 95 34 [l0, l1, l2, l3, l4] (.int y :: .int x :: st) σ r ↔ Ev L xs ρ 95 35 [l0, l1, l2, l3, l4] (.int (x + y) :: st) σ r := ev_nx (ev_ex cm_95 dX7_nameAt_34 rfl rfl)
theorem x95_35 : Ev L xs ρ 95 35 [l0, l1, l2, l3, l4] st σ r ↔ Ev L xs ρ 95 39 [l0, l1, l2, l3, l4] st σ r := ev_goto cm_95 dX7_nameAt_35 (by decide)
theorem x95_38 : Ev L xs ρ 95 38 [l0, l1, l2, l3, l4] st σ r ↔ Ev L xs ρ 95 39 [l0, l1, l2, l3, l4] (.int (0) :: st) σ r := ev_iconst cm_95 dX7_nameAt_38 (by decide)
theorem x95_39 : Ev L xs ρ 95 39 [l0, l1, l2, l3, l4] (.int y :: .int x :: st) σ r ↔ Ev L xs ρ 95 40 [l0, l1, l2, l3, l4] (.int (x + y) :: st) σ r := ev_nx (ev_ex cm_95 dX7_nameAt_39 rfl rfl)
theorem x95_40 : Ev L xs ρ 95 40 [l0, l1, l2, l3, l4] (.int x :: st) σ r ↔ Ev L xs ρ 95 41 [l0, l1, l2, some (.int x), l4] st σ r := ev_istore_n cm_95 dX7_nameAt_40 rfl (Nat.le_of_ble_eq_true rfl)
theorem x95_41 : Ev L xs ρ 95 41 [l0, l1, l2, l3, some (.int x)] st σ r ↔ Ev L xs ρ 95 44 [l0, l1, l2, l3, some (.int (x + (1)))] st σ r := ev_iinc cm_95 dX7_nameAt_41 rfl (by decide)
theorem x95_44 : Ev L xs ρ 95 44 [l0, l1, l2, l3, l4] st σ r ↔ Ev L xs ρ 95 5 [l0, l1, l2, l3, l4] st σ r := ev_goto cm_95 dX7_nameAt_44 (by decide)
theorem x95_47 : Ev L xs ρ 95 47 [l0, l1, l2, some (.int x), l4] st σ r ↔ Ev L xs ρ 95 48 [l0, l1, l2, some (.int x), l4] (.int x :: st) σ r := ev_iload_n cm_95 dX7_nameAt_47 rfl rfl
theorem x95_48 : Ev L xs ρ 95 48 [l0, l1, l2, l3, l4] [.int x] σ r ↔ r = (some (.int x), σ) := ev_reti cm_95 dX7_nameAt_48 rfl
theorem cm_96 : mcd 96 = cX7_numberAt := rfl
theorem em_96 : Em L xs 96 [.ref a, .int x, .int y] σ r ↔ Ev L xs 1 96 0 [some (.ref a), some (.int x), some (.int y), none, none] [] σ r := Iff.rfl
theorem x96_0 : Ev L xs ρ 96 0 [l0, l1, l2, l3, l4] st σ r ↔ Ev L xs ρ 96 1 [l0, l1, l2, l3, l4] (.int (0) :: st) σ r := ev_iconst cm_96 dX7_numberAt_0 (by decide)
theorem x96_1 : Ev L xs ρ 96 1 [l0, l1, l2, l3, l4] (.int x :: st) σ r ↔ Ev L xs ρ 96 2 [l0, l1, l2, some (.int x), l4] st σ r := ev_istore_n cm_96 dX7_numberAt_1 rfl (Nat.le_of_ble_eq_true rfl)
theorem x96_2 : Ev L xs ρ 96 2 [l0, l1, l2, l3, l4] st σ r ↔ Ev L xs ρ 96 3 [l0, l1, l2, l3, l4] (.int (0) :: st) σ r := ev_iconst cm_96 dX7_numberAt_2 (by decide)
theorem x96_3 : Ev L xs ρ 96 3 [l0, l1, l2, l3, l4] (.int x :: st) σ r ↔ Ev L xs ρ 96 5 [l0, l1, l2, l3, some (.int x)] st σ r := ev_istore cm_96 dX7_numberAt_3 (Nat.le_of_ble_eq_true rfl)
theorem x96_5 : Ev L xs ρ 96 5 [l0, l1, l2, l3, some (.int x)] st σ r ↔ Ev L xs ρ 96 7 [l0, l1, l2, l3, some (.int x)] (.int x :: st) σ r := ev_iload cm_96 dX7_numberAt_5 rfl
theorem x96_7 : Ev L xs ρ 96 7 [l0, l1, some (.int x), l3, l4] st σ r ↔ Ev L xs ρ 96 8 [l0, l1, some (.int x), l3, l4] (.int x :: st) σ r := ev_iload_n cm_96 dX7_numberAt_7 rfl rfl
theorem x96_8 : Ev L xs ρ 96 8 [l0, l1, l2, l3, l4] (.int y :: .int x :: st) σ r ↔ if y ≤ x then Ev L xs ρ 96 40 [l0, l1, l2, l3, l4] st σ r else Ev L xs ρ 96 11 [l0, l1, l2, l3, l4] st σ r := ev_icge cm_96 dX7_numberAt_8 (by decide)
theorem x96_11 : Ev L xs ρ 96 11 [l0, l1, l2, l3, some (.int x)] st σ r ↔ Ev L xs ρ 96 13 [l0, l1, l2, l3, some (.int x)] (.int x :: st) σ r := ev_iload cm_96 dX7_numberAt_11 rfl
theorem x96_13 : Ev L xs ρ 96 13 [l0, l1, l2, l3, l4] st σ r ↔ Ev L xs ρ 96 14 [l0, l1, l2, l3, l4] (.int (4) :: st) σ r := ev_iconst cm_96 dX7_numberAt_13 (by decide)
theorem x96_14 : Ev L xs ρ 96 14 [l0, l1, l2, l3, l4] (.int y :: .int x :: st) σ r ↔ if y ≤ x then Ev L xs ρ 96 40 [l0, l1, l2, l3, l4] st σ r else Ev L xs ρ 96 17 [l0, l1, l2, l3, l4] st σ r := ev_icge cm_96 dX7_numberAt_14 (by decide)
theorem x96_17 : Ev L xs ρ 96 17 [l0, l1, l2, l3, l4] st σ r ↔ Ev L xs ρ 96 19 [l0, l1, l2, l3, l4] (.int (10) :: st) σ r := ev_bipush cm_96 dX7_numberAt_17 (by decide)
theorem x96_19 : Ev L xs ρ 96 19 [l0, l1, l2, some (.int x), l4] st σ r ↔ Ev L xs ρ 96 20 [l0, l1, l2, some (.int x), l4] (.int x :: st) σ r := ev_iload_n cm_96 dX7_numberAt_19 rfl rfl
theorem x96_20 : Ev L xs ρ 96 20 [l0, l1, l2, l3, l4] (.int y :: .int x :: st) σ r ↔ Ev L xs ρ 96 21 [l0, l1, l2, l3, l4] (.int (x * y) :: st) σ r := ev_nx (ev_ex cm_96 dX7_numberAt_20 rfl rfl)
theorem x96_21 : Ev L xs ρ 96 21 [some (.ref a), l1, l2, l3, l4] st σ r ↔ Ev L xs ρ 96 22 [some (.ref a), l1, l2, l3, l4] (.ref a :: st) σ r := ev_aload_n cm_96 dX7_numberAt_21 rfl rfl
theorem x96_22 : Ev L xs ρ 96 22 [l0, some (.int x), l2, l3, l4] st σ r ↔ Ev L xs ρ 96 23 [l0, some (.int x), l2, l3, l4] (.int x :: st) σ r := ev_iload_n cm_96 dX7_numberAt_22 rfl rfl
theorem x96_23 : Ev L xs ρ 96 23 [l0, l1, l2, l3, some (.int x)] st σ r ↔ Ev L xs ρ 96 25 [l0, l1, l2, l3, some (.int x)] (.int x :: st) σ r := ev_iload cm_96 dX7_numberAt_23 rfl
theorem x96_25 : Ev L xs ρ 96 25 [l0, l1, l2, l3, l4] (.int y :: .int x :: st) σ r ↔ Ev L xs ρ 96 26 [l0, l1, l2, l3, l4] (.int (x + y) :: st) σ r := ev_nx (ev_ex cm_96 dX7_numberAt_25 rfl rfl)
theorem x96_26 : Ev L xs 1 96 26 [l0, l1, l2, l3, l4] (.int y :: .ref a :: .int x :: []) σ r ↔ ∃ v n2 I2 L2 R2, Em L xs 160 [.ref a, .int y] σ (v, n2, I2, L2, R2) ∧ Ev L xs 1 96 29 [l0, l1, l2, l3, l4] (v.toList ++ (.int x :: [])) (n2, I2, L2, R2) r := ev_cS cm_96 [.ref a, .int y] dX7_numberAt_26 rfl rfl rfl (Nat.le_of_ble_eq_true rfl) (rka_lt rfl (by decide)) (Nat.le_of_ble_eq_true rfl)
theorem x96_29 : Ev L xs ρ 96 29 [l0, l1, l2, l3, l4] (.int y :: .int x :: st) σ r ↔ Ev L xs ρ 96 30 [l0, l1, l2, l3, l4] (.int (x + y) :: st) σ r := ev_nx (ev_ex cm_96 dX7_numberAt_29 rfl rfl)
theorem x96_30 : Ev L xs ρ 96 30 [l0, l1, l2, l3, l4] st σ r ↔ Ev L xs ρ 96 32 [l0, l1, l2, l3, l4] (.int (48) :: st) σ r := ev_bipush cm_96 dX7_numberAt_30 (by decide)
theorem x96_32 : Ev L xs ρ 96 32 [l0, l1, l2, l3, l4] (.int y :: .int x :: st) σ r ↔ Ev L xs ρ 96 33 [l0, l1, l2, l3, l4] (.int (x - y) :: st) σ r := ev_nx (ev_ex cm_96 dX7_numberAt_32 rfl rfl)
theorem x96_33 : Ev L xs ρ 96 33 [l0, l1, l2, l3, l4] (.int x :: st) σ r ↔ Ev L xs ρ 96 34 [l0, l1, l2, some (.int x), l4] st σ r := ev_istore_n cm_96 dX7_numberAt_33 rfl (Nat.le_of_ble_eq_true rfl)
theorem x96_34 : Ev L xs ρ 96 34 [l0, l1, l2, l3, some (.int x)] st σ r ↔ Ev L xs ρ 96 37 [l0, l1, l2, l3, some (.int (x + (1)))] st σ r := ev_iinc cm_96 dX7_numberAt_34 rfl (by decide)
theorem x96_37 : Ev L xs ρ 96 37 [l0, l1, l2, l3, l4] st σ r ↔ Ev L xs ρ 96 5 [l0, l1, l2, l3, l4] st σ r := ev_goto cm_96 dX7_numberAt_37 (by decide)
theorem x96_40 : Ev L xs ρ 96 40 [l0, l1, l2, some (.int x), l4] st σ r ↔ Ev L xs ρ 96 41 [l0, l1, l2, some (.int x), l4] (.int x :: st) σ r := ev_iload_n cm_96 dX7_numberAt_40 rfl rfl
theorem x96_41 : Ev L xs ρ 96 41 [l0, l1, l2, l3, l4] [.int x] σ r ↔ r = (some (.int x), σ) := ev_reti cm_96 dX7_numberAt_41 rfl
theorem cm_97 : mcd 97 = cX8_init := rfl
theorem em_97 : Em L xs 97 [.ref a] σ r ↔ Ev L xs 3 97 0 [some (.ref a)] [] σ r := Iff.rfl
theorem x97_0 : Ev L xs ρ 97 0 [some (.ref a)] st σ r ↔ Ev L xs ρ 97 1 [some (.ref a)] (.ref a :: st) σ r := ev_aload_n cm_97 dX8_init_0 rfl rfl
theorem x97_1 : Ev L xs ρ 97 1 [l0] (.ref a :: []) σ r ↔ Ev L xs ρ 97 4 [l0] [] σ r := ev_oi cm_97 dX8_init_1 rfl (Nat.le_of_ble_eq_true rfl)
theorem x97_4 : Ev L xs ρ 97 4 [some (.ref a)] st σ r ↔ Ev L xs ρ 97 5 [some (.ref a)] (.ref a :: st) σ r := ev_aload_n cm_97 dX8_init_4 rfl rfl
theorem x97_5 : Ev L xs ρ 97 5 [l0] st (n, I, Lm, Rm) r ↔ (n < NNN ∧ shp n = (0, 5)) ∧ Ev L xs ρ 97 8 [l0] (.ref n :: st) (n + 1, zr2 I n 0, zr2 Lm n 0, zr2 Rm n 0) r := ev_new cm_97 dX8_init_5 rfl
theorem x97_8 : Ev L xs ρ 97 8 [l0] (.ref a :: st) σ r ↔ Ev L xs ρ 97 9 [l0] (.ref a :: .ref a :: st) σ r := ev_nx (ev_ex cm_97 dX8_init_8 rfl rfl)
theorem x97_9 : Ev L xs ρ 97 9 [l0] st σ r ↔ Ev L xs ρ 97 11 [l0] (.int (12) :: st) σ r := ev_bipush cm_97 dX8_init_9 (by decide)
theorem x97_11 : Ev L xs 3 97 11 [l0] (.int x :: .ref c :: .ref b :: .ref a :: []) (n, I, Lm, Rm) r ↔ (c < n ∧ shp c = (0, 5)) ∧ ∃ v n2 I2 L2 R2, Em L xs 58 [.ref c, .int x] (n, I, Lm, Rm) (v, n2, I2, L2, R2) ∧ Ev L xs 3 97 14 [l0] (v.toList ++ (.ref b :: .ref a :: [])) (n2, I2, L2, R2) r := ev_cI cm_97 [.int x] dX8_init_11 rfl rfl rfl rfl (Nat.le_of_ble_eq_true rfl) (rka_lt rfl (by decide)) (Nat.le_of_ble_eq_true rfl)
theorem x97_14 : Ev L xs ρ 97 14 [l0] (.ref b :: .ref a :: st) (n, I, Lm, Rm) r ↔ (a < n ∧ shp a = (0, 8)) ∧ Ev L xs ρ 97 17 [l0] st (n, I, Lm, up2 Rm a 0 (b + 1)) r := ev_ptR cm_97 dX8_init_14 rfl rfl (Or.inr ⟨rfl, rfl⟩)
theorem x97_17 : Ev L xs ρ 97 17 [some (.ref a)] st σ r ↔ Ev L xs ρ 97 18 [some (.ref a)] (.ref a :: st) σ r := ev_aload_n cm_97 dX8_init_17 rfl rfl
theorem x97_18 : Ev L xs ρ 97 18 [l0] st (n, I, Lm, Rm) r ↔ (n < NNN ∧ shp n = (0, 4)) ∧ Ev L xs ρ 97 21 [l0] (.ref n :: st) (n + 1, zr2 I n 0, zr2 Lm n 0, zr2 Rm n 0) r := ev_new cm_97 dX8_init_18 rfl
theorem x97_21 : Ev L xs ρ 97 21 [l0] (.ref a :: st) σ r ↔ Ev L xs ρ 97 22 [l0] (.ref a :: .ref a :: st) σ r := ev_nx (ev_ex cm_97 dX8_init_21 rfl rfl)
theorem x97_22 : Ev L xs 3 97 22 [l0] (.ref c :: .ref b :: .ref a :: []) (n, I, Lm, Rm) r ↔ (c < n ∧ shp c = (0, 4)) ∧ ∃ v n2 I2 L2 R2, Em L xs 50 [.ref c] (n, I, Lm, Rm) (v, n2, I2, L2, R2) ∧ Ev L xs 3 97 25 [l0] (v.toList ++ (.ref b :: .ref a :: [])) (n2, I2, L2, R2) r := ev_cI cm_97 [] dX8_init_22 rfl rfl rfl rfl (Nat.le_of_ble_eq_true rfl) (rka_lt rfl (by decide)) (Nat.le_of_ble_eq_true rfl)
theorem x97_25 : Ev L xs ρ 97 25 [l0] (.ref b :: .ref a :: st) (n, I, Lm, Rm) r ↔ (a < n ∧ shp a = (0, 8)) ∧ Ev L xs ρ 97 28 [l0] st (n, I, Lm, up2 Rm a 1 (b + 1)) r := ev_ptR cm_97 dX8_init_25 rfl rfl (Or.inr ⟨rfl, rfl⟩)
theorem x97_28 : Ev L xs ρ 97 28 [l0] [] σ r ↔ r = (none, σ) := ev_retv cm_97 dX8_init_28 rfl
end
