section
variable {L : Nat} {xs : Nat → Int32} {ρ n : Nat} {st : List Value} {σ : Mm} {r : Option Value × Mm} {I : Nat → Nat → Int32} {Lm : Nat → Nat → Int64} {Rm : Nat → Nat → Nat}
variable {l0 l1 l2 l3 l4 l5 l6 l7 l8 : Option Value} {x y z x3 x4 x5 x6 x7 : Int32} {u v u1 u2 u3 u4 : Int64} {a b c a3 a4 : Nat}
theorem cm_15 : mcd 15 = cX3_init := rfl
theorem em_15 : Em L xs 15 [.ref a, .ref b] σ r ↔ Ev L xs 2 15 0 [some (.ref a), some (.ref b)] [] σ r := Iff.rfl
theorem x15_0 : Ev L xs ρ 15 0 [some (.ref a), l1] st σ r ↔ Ev L xs ρ 15 1 [some (.ref a), l1] (.ref a :: st) σ r := ev_aload_n cm_15 dX3_init_0 rfl rfl
theorem x15_1 : Ev L xs ρ 15 1 [l0, l1] (.ref a :: []) σ r ↔ Ev L xs ρ 15 4 [l0, l1] [] σ r := ev_oi cm_15 dX3_init_1 rfl (Nat.le_of_ble_eq_true rfl)
theorem x15_4 : Ev L xs ρ 15 4 [some (.ref a), l1] st σ r ↔ Ev L xs ρ 15 5 [some (.ref a), l1] (.ref a :: st) σ r := ev_aload_n cm_15 dX3_init_4 rfl rfl
theorem x15_5 : Ev L xs ρ 15 5 [l0, l1] st (n, I, Lm, Rm) r ↔ (n < NNN ∧ shp n = (0, 7)) ∧ Ev L xs ρ 15 8 [l0, l1] (.ref n :: st) (n + 1, zr2 I n 0, zr2 Lm n 0, zr2 Rm n 0) r := ev_new cm_15 dX3_init_5 rfl
theorem x15_8 : Ev L xs ρ 15 8 [l0, l1] (.ref a :: st) σ r ↔ Ev L xs ρ 15 9 [l0, l1] (.ref a :: .ref a :: st) σ r := ev_nx (ev_ex cm_15 dX3_init_8 rfl rfl)
theorem x15_9 : Ev L xs 2 15 9 [l0, l1] (.ref c :: .ref b :: .ref a :: []) (n, I, Lm, Rm) r ↔ (c < n ∧ shp c = (0, 7)) ∧ ∃ v n2 I2 L2 R2, Em L xs 87 [.ref c] (n, I, Lm, Rm) (v, n2, I2, L2, R2) ∧ Ev L xs 2 15 12 [l0, l1] (v.toList ++ (.ref b :: .ref a :: [])) (n2, I2, L2, R2) r := ev_cI cm_15 [] dX3_init_9 rfl rfl rfl rfl (Nat.le_of_ble_eq_true rfl) (rka_lt rfl (by decide)) (Nat.le_of_ble_eq_true rfl)
theorem x15_12 : Ev L xs ρ 15 12 [l0, l1] (.ref b :: .ref a :: st) (n, I, Lm, Rm) r ↔ (a < n ∧ shp a = (0, 3)) ∧ Ev L xs ρ 15 15 [l0, l1] st (n, I, Lm, up2 Rm a 0 (b + 1)) r := ev_ptR cm_15 dX3_init_12 rfl rfl (Or.inr ⟨rfl, rfl⟩)
theorem x15_15 : Ev L xs ρ 15 15 [some (.ref a), l1] st σ r ↔ Ev L xs ρ 15 16 [some (.ref a), l1] (.ref a :: st) σ r := ev_aload_n cm_15 dX3_init_15 rfl rfl
theorem x15_16 : Ev L xs ρ 15 16 [l0, l1] st σ r ↔ Ev L xs ρ 15 17 [l0, l1] (.int (-1) :: st) σ r := ev_iconst cm_15 dX3_init_16 (by decide)
theorem x15_17 : Ev L xs ρ 15 17 [l0, l1] (.int x :: .ref a :: st) (n, I, Lm, Rm) r ↔ (a < n ∧ shp a = (0, 3)) ∧ Ev L xs ρ 15 20 [l0, l1] st (n, up2 I a 9 x, Lm, Rm) r := ev_ptI cm_15 dX3_init_17 rfl rfl (Or.inl rfl)
theorem x15_20 : Ev L xs ρ 15 20 [some (.ref a), l1] st σ r ↔ Ev L xs ρ 15 21 [some (.ref a), l1] (.ref a :: st) σ r := ev_aload_n cm_15 dX3_init_20 rfl rfl
theorem x15_21 : Ev L xs ρ 15 21 [l0, some (.ref a)] st σ r ↔ Ev L xs ρ 15 22 [l0, some (.ref a)] (.ref a :: st) σ r := ev_aload_n cm_15 dX3_init_21 rfl rfl
theorem x15_22 : Ev L xs 2 15 22 [l0, l1] (.ref b :: .ref a :: []) (n, I, Lm, Rm) r ↔ (a < n ∧ shp a = (0, 3)) ∧ ∃ v n2 I2 L2 R2, Em L xs 16 [.ref a, .ref b] (n, I, Lm, Rm) (v, n2, I2, L2, R2) ∧ Ev L xs 2 15 25 [l0, l1] (v.toList ++ []) (n2, I2, L2, R2) r := ev_cV cm_15 [.ref b] dX3_init_22 rfl rfl rfl rfl (Nat.le_of_ble_eq_true rfl) (rka_lt rfl (by decide)) (Nat.le_of_ble_eq_true rfl)
theorem x15_25 : Ev L xs ρ 15 25 [l0, l1] [] σ r ↔ r = (none, σ) := ev_retv cm_15 dX3_init_25 rfl
theorem cm_16 : mcd 16 = cX3_aimAt := rfl
theorem em_16 : Em L xs 16 [.ref a, .ref b] σ r ↔ Ev L xs 0 16 0 [some (.ref a), some (.ref b)] [] σ r := Iff.rfl
theorem x16_0 : Ev L xs ρ 16 0 [some (.ref a), l1] st σ r ↔ Ev L xs ρ 16 1 [some (.ref a), l1] (.ref a :: st) σ r := ev_aload_n cm_16 dX3_aimAt_0 rfl rfl
theorem x16_1 : Ev L xs ρ 16 1 [l0, some (.ref a)] st σ r ↔ Ev L xs ρ 16 2 [l0, some (.ref a)] (.ref a :: st) σ r := ev_aload_n cm_16 dX3_aimAt_1 rfl rfl
theorem x16_2 : Ev L xs ρ 16 2 [l0, l1] (.ref a :: st) (n, I, Lm, Rm) r ↔ (a < n ∧ shp a = (0, 8)) ∧ Ev L xs ρ 16 5 [l0, l1] (rfv (Rm a 0) :: st) (n, I, Lm, Rm) r := ev_gtR cm_16 dX3_aimAt_2 rfl rfl
theorem x16_5 : Ev L xs ρ 16 5 [l0, l1] (.ref b :: .ref a :: st) (n, I, Lm, Rm) r ↔ (a < n ∧ shp a = (0, 3)) ∧ Ev L xs ρ 16 8 [l0, l1] st (n, I, Lm, up2 Rm a 1 (b + 1)) r := ev_ptR cm_16 dX3_aimAt_5 rfl rfl (Or.inl rfl)
theorem x16_8 : Ev L xs ρ 16 8 [some (.ref a), l1] st σ r ↔ Ev L xs ρ 16 9 [some (.ref a), l1] (.ref a :: st) σ r := ev_aload_n cm_16 dX3_aimAt_8 rfl rfl
theorem x16_9 : Ev L xs ρ 16 9 [some (.ref a), l1] st σ r ↔ Ev L xs ρ 16 10 [some (.ref a), l1] (.ref a :: st) σ r := ev_aload_n cm_16 dX3_aimAt_9 rfl rfl
theorem x16_10 : Ev L xs ρ 16 10 [l0, l1] (.ref a :: st) (n, I, Lm, Rm) r ↔ (a < n ∧ shp a = (0, 3)) ∧ Ev L xs ρ 16 13 [l0, l1] (rfv (Rm a 1) :: st) (n, I, Lm, Rm) r := ev_gtR cm_16 dX3_aimAt_10 rfl rfl
theorem x16_13 : Ev L xs ρ 16 13 [l0, l1] (.ref a :: st) (n, I, Lm, Rm) r ↔ (a < n ∧ shp a = (0, 5)) ∧ Ev L xs ρ 16 16 [l0, l1] (rfv (Rm a 5) :: st) (n, I, Lm, Rm) r := ev_gtR cm_16 dX3_aimAt_13 rfl rfl
theorem x16_16 : Ev L xs ρ 16 16 [l0, l1] (.ref b :: .ref a :: st) (n, I, Lm, Rm) r ↔ (a < n ∧ shp a = (0, 3)) ∧ Ev L xs ρ 16 19 [l0, l1] st (n, I, Lm, up2 Rm a 2 (b + 1)) r := ev_ptR cm_16 dX3_aimAt_16 rfl rfl (Or.inl rfl)
theorem x16_19 : Ev L xs ρ 16 19 [some (.ref a), l1] st σ r ↔ Ev L xs ρ 16 20 [some (.ref a), l1] (.ref a :: st) σ r := ev_aload_n cm_16 dX3_aimAt_19 rfl rfl
theorem x16_20 : Ev L xs ρ 16 20 [some (.ref a), l1] st σ r ↔ Ev L xs ρ 16 21 [some (.ref a), l1] (.ref a :: st) σ r := ev_aload_n cm_16 dX3_aimAt_20 rfl rfl
theorem x16_21 : Ev L xs ρ 16 21 [l0, l1] (.ref a :: st) (n, I, Lm, Rm) r ↔ (a < n ∧ shp a = (0, 3)) ∧ Ev L xs ρ 16 24 [l0, l1] (rfv (Rm a 1) :: st) (n, I, Lm, Rm) r := ev_gtR cm_16 dX3_aimAt_21 rfl rfl
theorem x16_24 : Ev L xs ρ 16 24 [l0, l1] (.ref a :: st) (n, I, Lm, Rm) r ↔ (a < n ∧ shp a = (0, 5)) ∧ Ev L xs ρ 16 27 [l0, l1] (rfv (Rm a 0) :: st) (n, I, Lm, Rm) r := ev_gtR cm_16 dX3_aimAt_24 rfl rfl
theorem x16_27 : Ev L xs ρ 16 27 [l0, l1] (.ref b :: .ref a :: st) (n, I, Lm, Rm) r ↔ (a < n ∧ shp a = (0, 3)) ∧ Ev L xs ρ 16 30 [l0, l1] st (n, I, Lm, up2 Rm a 3 (b + 1)) r := ev_ptR cm_16 dX3_aimAt_27 rfl rfl (Or.inl rfl)
theorem x16_30 : Ev L xs ρ 16 30 [some (.ref a), l1] st σ r ↔ Ev L xs ρ 16 31 [some (.ref a), l1] (.ref a :: st) σ r := ev_aload_n cm_16 dX3_aimAt_30 rfl rfl
theorem x16_31 : Ev L xs ρ 16 31 [some (.ref a), l1] st σ r ↔ Ev L xs ρ 16 32 [some (.ref a), l1] (.ref a :: st) σ r := ev_aload_n cm_16 dX3_aimAt_31 rfl rfl
theorem x16_32 : Ev L xs ρ 16 32 [l0, l1] (.ref a :: st) (n, I, Lm, Rm) r ↔ (a < n ∧ shp a = (0, 3)) ∧ Ev L xs ρ 16 35 [l0, l1] (rfv (Rm a 1) :: st) (n, I, Lm, Rm) r := ev_gtR cm_16 dX3_aimAt_32 rfl rfl
theorem x16_35 : Ev L xs ρ 16 35 [l0, l1] (.ref a :: st) (n, I, Lm, Rm) r ↔ (a < n ∧ shp a = (0, 5)) ∧ Ev L xs ρ 16 38 [l0, l1] (rfv (Rm a 1) :: st) (n, I, Lm, Rm) r := ev_gtR cm_16 dX3_aimAt_35 rfl rfl
theorem x16_38 : Ev L xs ρ 16 38 [l0, l1] (.ref b :: .ref a :: st) (n, I, Lm, Rm) r ↔ (a < n ∧ shp a = (0, 3)) ∧ Ev L xs ρ 16 41 [l0, l1] st (n, I, Lm, up2 Rm a 4 (b + 1)) r := ev_ptR cm_16 dX3_aimAt_38 rfl rfl (Or.inl rfl)
theorem x16_41 : Ev L xs ρ 16 41 [some (.ref a), l1] st σ r ↔ Ev L xs ρ 16 42 [some (.ref a), l1] (.ref a :: st) σ r := ev_aload_n cm_16 dX3_aimAt_41 rfl rfl
theorem x16_42 : Ev L xs ρ 16 42 [l0, some (.ref a)] st σ r ↔ Ev L xs ρ 16 43 [l0, some (.ref a)] (.ref a :: st) σ r := ev_aload_n cm_16 dX3_aimAt_42 rfl rfl
theorem x16_43 : Ev L xs ρ 16 43 [l0, l1] (.ref a :: st) (n, I, Lm, Rm) r ↔ (a < n ∧ shp a = (0, 8)) ∧ Ev L xs ρ 16 46 [l0, l1] (rfv (Rm a 1) :: st) (n, I, Lm, Rm) r := ev_gtR cm_16 dX3_aimAt_43 rfl rfl
theorem x16_46 : Ev L xs ρ 16 46 [l0, l1] (.ref b :: .ref a :: st) (n, I, Lm, Rm) r ↔ (a < n ∧ shp a = (0, 3)) ∧ Ev L xs ρ 16 49 [l0, l1] st (n, I, Lm, up2 Rm a 5 (b + 1)) r := ev_ptR cm_16 dX3_aimAt_46 rfl rfl (Or.inl rfl)
theorem x16_49 : Ev L xs ρ 16 49 [l0, l1] [] σ r ↔ r = (none, σ) := ev_retv cm_16 dX3_aimAt_49 rfl
theorem cm_17 : mcd 17 = cX3_begin := rfl
theorem em_17 : Em L xs 17 [.ref a, .ref b, .int x, .ref c] σ r ↔ Ev L xs 4 17 0 [some (.ref a), some (.ref b), some (.int x), some (.ref c)] [] σ r := Iff.rfl
theorem x17_0 : Ev L xs ρ 17 0 [some (.ref a), l1, l2, l3] st σ r ↔ Ev L xs ρ 17 1 [some (.ref a), l1, l2, l3] (.ref a :: st) σ r := ev_aload_n cm_17 dX3_begin_0 rfl rfl
theorem x17_1 : Ev L xs ρ 17 1 [l0, l1, l2, some (.ref a)] st σ r ↔ Ev L xs ρ 17 2 [l0, l1, l2, some (.ref a)] (.ref a :: st) σ r := ev_aload_n cm_17 dX3_begin_1 rfl rfl
theorem x17_2 : Ev L xs 4 17 2 [l0, l1, l2, l3] (.ref b :: .ref a :: []) (n, I, Lm, Rm) r ↔ (a < n ∧ shp a = (0, 3)) ∧ ∃ v n2 I2 L2 R2, Em L xs 16 [.ref a, .ref b] (n, I, Lm, Rm) (v, n2, I2, L2, R2) ∧ Ev L xs 4 17 5 [l0, l1, l2, l3] (v.toList ++ []) (n2, I2, L2, R2) r := ev_cV cm_17 [.ref b] dX3_begin_2 rfl rfl rfl rfl (Nat.le_of_ble_eq_true rfl) (rka_lt rfl (by decide)) (Nat.le_of_ble_eq_true rfl)
theorem x17_5 : Ev L xs ρ 17 5 [some (.ref a), l1, l2, l3] st σ r ↔ Ev L xs ρ 17 6 [some (.ref a), l1, l2, l3] (.ref a :: st) σ r := ev_aload_n cm_17 dX3_begin_5 rfl rfl
theorem x17_6 : Ev L xs ρ 17 6 [l0, l1, l2, l3] (.ref a :: st) (n, I, Lm, Rm) r ↔ (a < n ∧ shp a = (0, 3)) ∧ Ev L xs ρ 17 9 [l0, l1, l2, l3] (rfv (Rm a 1) :: st) (n, I, Lm, Rm) r := ev_gtR cm_17 dX3_begin_6 rfl rfl
theorem x17_9 : Ev L xs 4 17 9 [l0, l1, l2, l3] (.ref a :: []) (n, I, Lm, Rm) r ↔ (a < n ∧ shp a = (0, 5)) ∧ ∃ v n2 I2 L2 R2, Em L xs 59 [.ref a] (n, I, Lm, Rm) (v, n2, I2, L2, R2) ∧ Ev L xs 4 17 12 [l0, l1, l2, l3] (v.toList ++ []) (n2, I2, L2, R2) r := ev_cV cm_17 [] dX3_begin_9 rfl rfl rfl rfl (Nat.le_of_ble_eq_true rfl) (rka_lt rfl (by decide)) (Nat.le_of_ble_eq_true rfl)
theorem x17_12 : Ev L xs ρ 17 12 [some (.ref a), l1, l2, l3] st σ r ↔ Ev L xs ρ 17 13 [some (.ref a), l1, l2, l3] (.ref a :: st) σ r := ev_aload_n cm_17 dX3_begin_12 rfl rfl
theorem x17_13 : Ev L xs ρ 17 13 [l0, l1, l2, l3] (.ref a :: st) (n, I, Lm, Rm) r ↔ (a < n ∧ shp a = (0, 3)) ∧ Ev L xs ρ 17 16 [l0, l1, l2, l3] (rfv (Rm a 5) :: st) (n, I, Lm, Rm) r := ev_gtR cm_17 dX3_begin_13 rfl rfl
theorem x17_16 : Ev L xs 4 17 16 [l0, l1, l2, l3] (.ref a :: []) (n, I, Lm, Rm) r ↔ (a < n ∧ shp a = (0, 4)) ∧ ∃ v n2 I2 L2 R2, Em L xs 51 [.ref a] (n, I, Lm, Rm) (v, n2, I2, L2, R2) ∧ Ev L xs 4 17 19 [l0, l1, l2, l3] (v.toList ++ []) (n2, I2, L2, R2) r := ev_cV cm_17 [] dX3_begin_16 rfl rfl rfl rfl (Nat.le_of_ble_eq_true rfl) (rka_lt rfl (by decide)) (Nat.le_of_ble_eq_true rfl)
theorem x17_19 : Ev L xs ρ 17 19 [some (.ref a), l1, l2, l3] st σ r ↔ Ev L xs ρ 17 20 [some (.ref a), l1, l2, l3] (.ref a :: st) σ r := ev_aload_n cm_17 dX3_begin_19 rfl rfl
theorem x17_20 : Ev L xs ρ 17 20 [l0, l1, l2, l3] (.ref a :: st) (n, I, Lm, Rm) r ↔ (a < n ∧ shp a = (0, 3)) ∧ Ev L xs ρ 17 23 [l0, l1, l2, l3] (rfv (Rm a 0) :: st) (n, I, Lm, Rm) r := ev_gtR cm_17 dX3_begin_20 rfl rfl
theorem x17_23 : Ev L xs ρ 17 23 [l0, some (.ref a), l2, l3] st σ r ↔ Ev L xs ρ 17 24 [l0, some (.ref a), l2, l3] (.ref a :: st) σ r := ev_aload_n cm_17 dX3_begin_23 rfl rfl
theorem x17_24 : Ev L xs ρ 17 24 [l0, l1, some (.int x), l3] st σ r ↔ Ev L xs ρ 17 25 [l0, l1, some (.int x), l3] (.int x :: st) σ r := ev_iload_n cm_17 dX3_begin_24 rfl rfl
theorem x17_25 : Ev L xs 4 17 25 [l0, l1, l2, l3] (.int x :: .ref b :: .ref a :: []) (n, I, Lm, Rm) r ↔ (a < n ∧ shp a = (0, 7)) ∧ ∃ v n2 I2 L2 R2, Em L xs 89 [.ref a, .ref b, .int x] (n, I, Lm, Rm) (v, n2, I2, L2, R2) ∧ Ev L xs 4 17 28 [l0, l1, l2, l3] (v.toList ++ []) (n2, I2, L2, R2) r := ev_cV cm_17 [.ref b, .int x] dX3_begin_25 rfl rfl rfl rfl (Nat.le_of_ble_eq_true rfl) (rka_lt rfl (by decide)) (Nat.le_of_ble_eq_true rfl)
theorem x17_28 : Ev L xs ρ 17 28 [some (.ref a), l1, l2, l3] st σ r ↔ Ev L xs ρ 17 29 [some (.ref a), l1, l2, l3] (.ref a :: st) σ r := ev_aload_n cm_17 dX3_begin_28 rfl rfl
theorem x17_29 : Ev L xs ρ 17 29 [l0, l1, l2, l3] st σ r ↔ Ev L xs ρ 17 30 [l0, l1, l2, l3] (.int (0) :: st) σ r := ev_iconst cm_17 dX3_begin_29 (by decide)
theorem x17_30 : Ev L xs ρ 17 30 [l0, l1, l2, l3] (.int x :: .ref a :: st) (n, I, Lm, Rm) r ↔ (a < n ∧ shp a = (0, 3)) ∧ Ev L xs ρ 17 33 [l0, l1, l2, l3] st (n, up2 I a 6 x, Lm, Rm) r := ev_ptI cm_17 dX3_begin_30 rfl rfl (Or.inl rfl)
theorem x17_33 : Ev L xs ρ 17 33 [some (.ref a), l1, l2, l3] st σ r ↔ Ev L xs ρ 17 34 [some (.ref a), l1, l2, l3] (.ref a :: st) σ r := ev_aload_n cm_17 dX3_begin_33 rfl rfl
theorem x17_34 : Ev L xs ρ 17 34 [l0, l1, l2, l3] st σ r ↔ Ev L xs ρ 17 35 [l0, l1, l2, l3] (.int (0) :: st) σ r := ev_iconst cm_17 dX3_begin_34 (by decide)
theorem x17_35 : Ev L xs ρ 17 35 [l0, l1, l2, l3] (.int x :: .ref a :: st) (n, I, Lm, Rm) r ↔ (a < n ∧ shp a = (0, 3)) ∧ Ev L xs ρ 17 38 [l0, l1, l2, l3] st (n, up2 I a 7 x, Lm, Rm) r := ev_ptI cm_17 dX3_begin_35 rfl rfl (Or.inl rfl)
theorem x17_38 : Ev L xs ρ 17 38 [some (.ref a), l1, l2, l3] st σ r ↔ Ev L xs ρ 17 39 [some (.ref a), l1, l2, l3] (.ref a :: st) σ r := ev_aload_n cm_17 dX3_begin_38 rfl rfl
theorem x17_39 : Ev L xs ρ 17 39 [l0, l1, l2, l3] st σ r ↔ Ev L xs ρ 17 40 [l0, l1, l2, l3] (.int (0) :: st) σ r := ev_iconst cm_17 dX3_begin_39 (by decide)
theorem x17_40 : Ev L xs ρ 17 40 [l0, l1, l2, l3] (.int x :: .ref a :: st) (n, I, Lm, Rm) r ↔ (a < n ∧ shp a = (0, 3)) ∧ Ev L xs ρ 17 43 [l0, l1, l2, l3] st (n, up2 I a 8 x, Lm, Rm) r := ev_ptI cm_17 dX3_begin_40 rfl rfl (Or.inl rfl)
theorem x17_43 : Ev L xs ρ 17 43 [some (.ref a), l1, l2, l3] st σ r ↔ Ev L xs ρ 17 44 [some (.ref a), l1, l2, l3] (.ref a :: st) σ r := ev_aload_n cm_17 dX3_begin_43 rfl rfl
theorem x17_44 : Ev L xs ρ 17 44 [l0, l1, l2, l3] st σ r ↔ Ev L xs ρ 17 45 [l0, l1, l2, l3] (.int (-1) :: st) σ r := ev_iconst cm_17 dX3_begin_44 (by decide)
theorem x17_45 : Ev L xs ρ 17 45 [l0, l1, l2, l3] (.int x :: .ref a :: st) (n, I, Lm, Rm) r ↔ (a < n ∧ shp a = (0, 3)) ∧ Ev L xs ρ 17 48 [l0, l1, l2, l3] st (n, up2 I a 9 x, Lm, Rm) r := ev_ptI cm_17 dX3_begin_45 rfl rfl (Or.inl rfl)
theorem x17_48 : Ev L xs ρ 17 48 [l0, l1, l2, l3] [] σ r ↔ r = (none, σ) := ev_retv cm_17 dX3_begin_48 rfl
theorem cm_18 : mcd 18 = cX3_isGood := rfl
theorem em_18 : Em L xs 18 [.ref a] σ r ↔ Ev L xs 0 18 0 [some (.ref a)] [] σ r := Iff.rfl
theorem x18_0 : Ev L xs ρ 18 0 [some (.ref a)] st σ r ↔ Ev L xs ρ 18 1 [some (.ref a)] (.ref a :: st) σ r := ev_aload_n cm_18 dX3_isGood_0 rfl rfl
theorem x18_1 : Ev L xs ρ 18 1 [l0] (.ref a :: st) (n, I, Lm, Rm) r ↔ (a < n ∧ shp a = (0, 3)) ∧ Ev L xs ρ 18 4 [l0] (.int (I a 8) :: st) (n, I, Lm, Rm) r := ev_gtI cm_18 dX3_isGood_1 rfl rfl
theorem x18_4 : Ev L xs ρ 18 4 [l0] (.int x :: st) σ r ↔ if x = 0 then Ev L xs ρ 18 7 [l0] st σ r else Ev L xs ρ 18 11 [l0] st σ r := ev_ifne cm_18 dX3_isGood_4 (by decide)
theorem x18_7 : Ev L xs ρ 18 7 [l0] st σ r ↔ Ev L xs ρ 18 8 [l0] (.int (1) :: st) σ r := ev_iconst cm_18 dX3_isGood_7 (by decide)
theorem x18_8 : Ev L xs ρ 18 8 [l0] st σ r ↔ Ev L xs ρ 18 12 [l0] st σ r := ev_goto cm_18 dX3_isGood_8 (by decide)
theorem x18_11 : Ev L xs ρ 18 11 [l0] st σ r ↔ Ev L xs ρ 18 12 [l0] (.int (0) :: st) σ r := ev_iconst cm_18 dX3_isGood_11 (by decide)
theorem x18_12 : Ev L xs ρ 18 12 [l0] [.int x] σ r ↔ (x = 0 ∨ x = 1) ∧ r = (some (.int x), σ) := ev_retz cm_18 dX3_isGood_12 rfl
theorem cm_19 : mcd 19 = cX3_hasMore := rfl
theorem em_19 : Em L xs 19 [.ref a] σ r ↔ Ev L xs 2 19 0 [some (.ref a)] [] σ r := Iff.rfl
theorem x19_0 : Ev L xs ρ 19 0 [some (.ref a)] st σ r ↔ Ev L xs ρ 19 1 [some (.ref a)] (.ref a :: st) σ r := ev_aload_n cm_19 dX3_hasMore_0 rfl rfl
theorem x19_1 : Ev L xs 2 19 1 [l0] (.ref a :: []) (n, I, Lm, Rm) r ↔ (a < n ∧ shp a = (0, 3)) ∧ ∃ v n2 I2 L2 R2, Em L xs 20 [.ref a] (n, I, Lm, Rm) (v, n2, I2, L2, R2) ∧ Ev L xs 2 19 4 [l0] (v.toList ++ []) (n2, I2, L2, R2) r := ev_cV cm_19 [] dX3_hasMore_1 rfl rfl rfl rfl (Nat.le_of_ble_eq_true rfl) (rka_lt rfl (by decide)) (Nat.le_of_ble_eq_true rfl)
theorem x19_4 : Ev L xs ρ 19 4 [l0] st σ r ↔ Ev L xs ρ 19 6 [l0] (.int (43) :: st) σ r := ev_bipush cm_19 dX3_hasMore_4 (by decide)
theorem x19_6 : Ev L xs ρ 19 6 [l0] (.int y :: .int x :: st) σ r ↔ if x = y then Ev L xs ρ 19 13 [l0] st σ r else Ev L xs ρ 19 9 [l0] st σ r := ev_iceq cm_19 dX3_hasMore_6 (by decide)
theorem x19_9 : Ev L xs ρ 19 9 [l0] st σ r ↔ Ev L xs ρ 19 10 [l0] (.int (1) :: st) σ r := ev_iconst cm_19 dX3_hasMore_9 (by decide)
theorem x19_10 : Ev L xs ρ 19 10 [l0] st σ r ↔ Ev L xs ρ 19 14 [l0] st σ r := ev_goto cm_19 dX3_hasMore_10 (by decide)
theorem x19_13 : Ev L xs ρ 19 13 [l0] st σ r ↔ Ev L xs ρ 19 14 [l0] (.int (0) :: st) σ r := ev_iconst cm_19 dX3_hasMore_13 (by decide)
theorem x19_14 : Ev L xs ρ 19 14 [l0] [.int x] σ r ↔ (x = 0 ∨ x = 1) ∧ r = (some (.int x), σ) := ev_retz cm_19 dX3_hasMore_14 rfl
theorem cm_20 : mcd 20 = cX3_ahead := rfl
theorem em_20 : Em L xs 20 [.ref a] σ r ↔ Ev L xs 1 20 0 [some (.ref a)] [] σ r := Iff.rfl
theorem x20_0 : Ev L xs ρ 20 0 [some (.ref a)] st σ r ↔ Ev L xs ρ 20 1 [some (.ref a)] (.ref a :: st) σ r := ev_aload_n cm_20 dX3_ahead_0 rfl rfl
theorem x20_1 : Ev L xs ρ 20 1 [l0] (.ref a :: st) (n, I, Lm, Rm) r ↔ (a < n ∧ shp a = (0, 3)) ∧ Ev L xs ρ 20 4 [l0] (.int (I a 8) :: st) (n, I, Lm, Rm) r := ev_gtI cm_20 dX3_ahead_1 rfl rfl
theorem x20_4 : Ev L xs ρ 20 4 [l0] (.int x :: st) σ r ↔ if x = 0 then Ev L xs ρ 20 7 [l0] st σ r else Ev L xs ρ 20 24 [l0] st σ r := ev_ifne cm_20 dX3_ahead_4 (by decide)
theorem x20_7 : Ev L xs ρ 20 7 [some (.ref a)] st σ r ↔ Ev L xs ρ 20 8 [some (.ref a)] (.ref a :: st) σ r := ev_aload_n cm_20 dX3_ahead_7 rfl rfl
theorem x20_8 : Ev L xs ρ 20 8 [l0] (.ref a :: st) (n, I, Lm, Rm) r ↔ (a < n ∧ shp a = (0, 3)) ∧ Ev L xs ρ 20 11 [l0] (rfv (Rm a 0) :: st) (n, I, Lm, Rm) r := ev_gtR cm_20 dX3_ahead_8 rfl rfl
theorem x20_11 : Ev L xs ρ 20 11 [l0] (.ref a :: st) (n, I, Lm, Rm) r ↔ (a < n ∧ shp a = (0, 7)) ∧ Ev L xs ρ 20 14 [l0] (rfv (Rm a 1) :: st) (n, I, Lm, Rm) r := ev_gtR cm_20 dX3_ahead_11 rfl rfl
theorem x20_14 : Ev L xs ρ 20 14 [some (.ref a)] st σ r ↔ Ev L xs ρ 20 15 [some (.ref a)] (.ref a :: st) σ r := ev_aload_n cm_20 dX3_ahead_14 rfl rfl
theorem x20_15 : Ev L xs ρ 20 15 [l0] (.ref a :: st) (n, I, Lm, Rm) r ↔ (a < n ∧ shp a = (0, 3)) ∧ Ev L xs ρ 20 18 [l0] (.int (I a 6) :: st) (n, I, Lm, Rm) r := ev_gtI cm_20 dX3_ahead_15 rfl rfl
theorem x20_18 : Ev L xs 1 20 18 [l0] (.int x :: .ref a :: []) σ r ↔ ∃ v n2 I2 L2 R2, Em L xs 160 [.ref a, .int x] σ (v, n2, I2, L2, R2) ∧ Ev L xs 1 20 21 [l0] (v.toList ++ []) (n2, I2, L2, R2) r := ev_cS cm_20 [.ref a, .int x] dX3_ahead_18 rfl rfl rfl (Nat.le_of_ble_eq_true rfl) (rka_lt rfl (by decide)) (Nat.le_of_ble_eq_true rfl)
theorem x20_21 : Ev L xs ρ 20 21 [l0] st σ r ↔ Ev L xs ρ 20 26 [l0] st σ r := ev_goto cm_20 dX3_ahead_21 (by decide)
theorem x20_24 : Ev L xs ρ 20 24 [l0] st σ r ↔ Ev L xs ρ 20 26 [l0] (.int (43) :: st) σ r := ev_bipush cm_20 dX3_ahead_24 (by decide)
theorem x20_26 : Ev L xs ρ 20 26 [l0] [.int x] σ r ↔ r = (some (.int x), σ) := ev_reti cm_20 dX3_ahead_26 rfl
theorem cm_21 : mcd 21 = cX3_fail := rfl
theorem em_21 : Em L xs 21 [.ref a, .int x, .int y] σ r ↔ Ev L xs 1 21 0 [some (.ref a), some (.int x), some (.int y)] [] σ r := Iff.rfl
theorem x21_0 : Ev L xs ρ 21 0 [some (.ref a), l1, l2] st σ r ↔ Ev L xs ρ 21 1 [some (.ref a), l1, l2] (.ref a :: st) σ r := ev_aload_n cm_21 dX3_fail_0 rfl rfl
theorem x21_1 : Ev L xs ρ 21 1 [l0, l1, l2] (.ref a :: st) (n, I, Lm, Rm) r ↔ (a < n ∧ shp a = (0, 3)) ∧ Ev L xs ρ 21 4 [l0, l1, l2] (.int (I a 8) :: st) (n, I, Lm, Rm) r := ev_gtI cm_21 dX3_fail_1 rfl rfl
theorem x21_4 : Ev L xs ρ 21 4 [l0, l1, l2] (.int x :: st) σ r ↔ if x = 0 then Ev L xs ρ 21 7 [l0, l1, l2] st σ r else Ev L xs ρ 21 32 [l0, l1, l2] st σ r := ev_ifne cm_21 dX3_fail_4 (by decide)
theorem x21_7 : Ev L xs ρ 21 7 [some (.ref a), l1, l2] st σ r ↔ Ev L xs ρ 21 8 [some (.ref a), l1, l2] (.ref a :: st) σ r := ev_aload_n cm_21 dX3_fail_7 rfl rfl
theorem x21_8 : Ev L xs ρ 21 8 [l0, some (.int x), l2] st σ r ↔ Ev L xs ρ 21 9 [l0, some (.int x), l2] (.int x :: st) σ r := ev_iload_n cm_21 dX3_fail_8 rfl rfl
theorem x21_9 : Ev L xs ρ 21 9 [l0, l1, l2] (.int x :: .ref a :: st) (n, I, Lm, Rm) r ↔ (a < n ∧ shp a = (0, 3)) ∧ Ev L xs ρ 21 12 [l0, l1, l2] st (n, up2 I a 8 x, Lm, Rm) r := ev_ptI cm_21 dX3_fail_9 rfl rfl (Or.inl rfl)
theorem x21_12 : Ev L xs ρ 21 12 [some (.ref a), l1, l2] st σ r ↔ Ev L xs ρ 21 13 [some (.ref a), l1, l2] (.ref a :: st) σ r := ev_aload_n cm_21 dX3_fail_12 rfl rfl
theorem x21_13 : Ev L xs ρ 21 13 [some (.ref a), l1, l2] st σ r ↔ Ev L xs ρ 21 14 [some (.ref a), l1, l2] (.ref a :: st) σ r := ev_aload_n cm_21 dX3_fail_13 rfl rfl
theorem x21_14 : Ev L xs ρ 21 14 [l0, l1, l2] (.ref a :: st) (n, I, Lm, Rm) r ↔ (a < n ∧ shp a = (0, 3)) ∧ Ev L xs ρ 21 17 [l0, l1, l2] (rfv (Rm a 0) :: st) (n, I, Lm, Rm) r := ev_gtR cm_21 dX3_fail_14 rfl rfl
theorem x21_17 : Ev L xs ρ 21 17 [l0, l1, l2] (.ref a :: st) (n, I, Lm, Rm) r ↔ (a < n ∧ shp a = (0, 7)) ∧ Ev L xs ρ 21 20 [l0, l1, l2] (rfv (Rm a 2) :: st) (n, I, Lm, Rm) r := ev_gtR cm_21 dX3_fail_17 rfl rfl
theorem x21_20 : Ev L xs ρ 21 20 [some (.ref a), l1, l2] st σ r ↔ Ev L xs ρ 21 21 [some (.ref a), l1, l2] (.ref a :: st) σ r := ev_aload_n cm_21 dX3_fail_20 rfl rfl
theorem x21_21 : Ev L xs ρ 21 21 [l0, l1, l2] (.ref a :: st) (n, I, Lm, Rm) r ↔ (a < n ∧ shp a = (0, 3)) ∧ Ev L xs ρ 21 24 [l0, l1, l2] (.int (I a 6) :: st) (n, I, Lm, Rm) r := ev_gtI cm_21 dX3_fail_21 rfl rfl
theorem x21_24 : Ev L xs 1 21 24 [l0, l1, l2] (.int x :: .ref b :: .ref a :: []) σ r ↔ ∃ v n2 I2 L2 R2, Em L xs 160 [.ref b, .int x] σ (v, n2, I2, L2, R2) ∧ Ev L xs 1 21 27 [l0, l1, l2] (v.toList ++ (.ref a :: [])) (n2, I2, L2, R2) r := ev_cS cm_21 [.ref b, .int x] dX3_fail_24 rfl rfl rfl (Nat.le_of_ble_eq_true rfl) (rka_lt rfl (by decide)) (Nat.le_of_ble_eq_true rfl)
theorem x21_27 : Ev L xs ρ 21 27 [l0, l1, some (.int x)] st σ r ↔ Ev L xs ρ 21 28 [l0, l1, some (.int x)] (.int x :: st) σ r := ev_iload_n cm_21 dX3_fail_27 rfl rfl
theorem x21_28 : Ev L xs ρ 21 28 [l0, l1, l2] (.int y :: .int x :: st) σ r ↔ Ev L xs ρ 21 29 [l0, l1, l2] (.int (x + y) :: st) σ r := ev_nx (ev_ex cm_21 dX3_fail_28 rfl rfl)
theorem x21_29 : Ev L xs ρ 21 29 [l0, l1, l2] (.int x :: .ref a :: st) (n, I, Lm, Rm) r ↔ (a < n ∧ shp a = (0, 3)) ∧ Ev L xs ρ 21 32 [l0, l1, l2] st (n, up2 I a 9 x, Lm, Rm) r := ev_ptI cm_21 dX3_fail_29 rfl rfl (Or.inl rfl)
theorem x21_32 : Ev L xs ρ 21 32 [l0, l1, l2] [] σ r ↔ r = (none, σ) := ev_retv cm_21 dX3_fail_32 rfl
theorem cm_22 : mcd 22 = cX3_takes := rfl
theorem em_22 : Em L xs 22 [.ref a, .int x] σ r ↔ Ev L xs 2 22 0 [some (.ref a), some (.int x)] [] σ r := Iff.rfl
theorem x22_0 : Ev L xs ρ 22 0 [some (.ref a), l1] st σ r ↔ Ev L xs ρ 22 1 [some (.ref a), l1] (.ref a :: st) σ r := ev_aload_n cm_22 dX3_takes_0 rfl rfl
theorem x22_1 : Ev L xs 2 22 1 [l0, l1] (.ref a :: []) (n, I, Lm, Rm) r ↔ (a < n ∧ shp a = (0, 3)) ∧ ∃ v n2 I2 L2 R2, Em L xs 20 [.ref a] (n, I, Lm, Rm) (v, n2, I2, L2, R2) ∧ Ev L xs 2 22 4 [l0, l1] (v.toList ++ []) (n2, I2, L2, R2) r := ev_cV cm_22 [] dX3_takes_1 rfl rfl rfl rfl (Nat.le_of_ble_eq_true rfl) (rka_lt rfl (by decide)) (Nat.le_of_ble_eq_true rfl)
theorem x22_4 : Ev L xs ρ 22 4 [l0, some (.int x)] st σ r ↔ Ev L xs ρ 22 5 [l0, some (.int x)] (.int x :: st) σ r := ev_iload_n cm_22 dX3_takes_4 rfl rfl
theorem x22_5 : Ev L xs ρ 22 5 [l0, l1] (.int y :: .int x :: st) σ r ↔ if x = y then Ev L xs ρ 22 10 [l0, l1] st σ r else Ev L xs ρ 22 8 [l0, l1] st σ r := ev_iceq cm_22 dX3_takes_5 (by decide)
theorem x22_8 : Ev L xs ρ 22 8 [l0, l1] st σ r ↔ Ev L xs ρ 22 9 [l0, l1] (.int (0) :: st) σ r := ev_iconst cm_22 dX3_takes_8 (by decide)
theorem x22_9 : Ev L xs ρ 22 9 [l0, l1] [.int x] σ r ↔ (x = 0 ∨ x = 1) ∧ r = (some (.int x), σ) := ev_retz cm_22 dX3_takes_9 rfl
theorem x22_10 : Ev L xs ρ 22 10 [some (.ref a), l1] st σ r ↔ Ev L xs ρ 22 11 [some (.ref a), l1] (.ref a :: st) σ r := ev_aload_n cm_22 dX3_takes_10 rfl rfl
theorem x22_11 : Ev L xs ρ 22 11 [l0, l1] (.ref a :: st) σ r ↔ Ev L xs ρ 22 12 [l0, l1] (.ref a :: .ref a :: st) σ r := ev_nx (ev_ex cm_22 dX3_takes_11 rfl rfl)
theorem x22_12 : Ev L xs ρ 22 12 [l0, l1] (.ref a :: st) (n, I, Lm, Rm) r ↔ (a < n ∧ shp a = (0, 3)) ∧ Ev L xs ρ 22 15 [l0, l1] (.int (I a 6) :: st) (n, I, Lm, Rm) r := ev_gtI cm_22 dX3_takes_12 rfl rfl
theorem x22_15 : Ev L xs ρ 22 15 [l0, l1] st σ r ↔ Ev L xs ρ 22 16 [l0, l1] (.int (1) :: st) σ r := ev_iconst cm_22 dX3_takes_15 (by decide)
theorem x22_16 : Ev L xs ρ 22 16 [l0, l1] (.int y :: .int x :: st) σ r ↔ Ev L xs ρ 22 17 [l0, l1] (.int (x + y) :: st) σ r := ev_nx (ev_ex cm_22 dX3_takes_16 rfl rfl)
theorem x22_17 : Ev L xs ρ 22 17 [l0, l1] (.int x :: .ref a :: st) (n, I, Lm, Rm) r ↔ (a < n ∧ shp a = (0, 3)) ∧ Ev L xs ρ 22 20 [l0, l1] st (n, up2 I a 6 x, Lm, Rm) r := ev_ptI cm_22 dX3_takes_17 rfl rfl (Or.inl rfl)
theorem x22_20 : Ev L xs ρ 22 20 [l0, l1] st σ r ↔ Ev L xs ρ 22 21 [l0, l1] (.int (1) :: st) σ r := ev_iconst cm_22 dX3_takes_20 (by decide)
theorem x22_21 : Ev L xs ρ 22 21 [l0, l1] [.int x] σ r ↔ (x = 0 ∨ x = 1) ∧ r = (some (.int x), σ) := ev_retz cm_22 dX3_takes_21 rfl
theorem cm_23 : mcd 23 = cX3_need := rfl
theorem em_23 : Em L xs 23 [.ref a, .int x] σ r ↔ Ev L xs 2 23 0 [some (.ref a), some (.int x)] [] σ r := Iff.rfl
theorem x23_0 : Ev L xs ρ 23 0 [some (.ref a), l1] st σ r ↔ Ev L xs ρ 23 1 [some (.ref a), l1] (.ref a :: st) σ r := ev_aload_n cm_23 dX3_need_0 rfl rfl
theorem x23_1 : Ev L xs 2 23 1 [l0, l1] (.ref a :: []) (n, I, Lm, Rm) r ↔ (a < n ∧ shp a = (0, 3)) ∧ ∃ v n2 I2 L2 R2, Em L xs 20 [.ref a] (n, I, Lm, Rm) (v, n2, I2, L2, R2) ∧ Ev L xs 2 23 4 [l0, l1] (v.toList ++ []) (n2, I2, L2, R2) r := ev_cV cm_23 [] dX3_need_1 rfl rfl rfl rfl (Nat.le_of_ble_eq_true rfl) (rka_lt rfl (by decide)) (Nat.le_of_ble_eq_true rfl)
theorem x23_4 : Ev L xs ρ 23 4 [l0, some (.int x)] st σ r ↔ Ev L xs ρ 23 5 [l0, some (.int x)] (.int x :: st) σ r := ev_iload_n cm_23 dX3_need_4 rfl rfl
theorem x23_5 : Ev L xs ρ 23 5 [l0, l1] (.int y :: .int x :: st) σ r ↔ if x = y then Ev L xs ρ 23 8 [l0, l1] st σ r else Ev L xs ρ 23 21 [l0, l1] st σ r := ev_icne cm_23 dX3_need_5 (by decide)
theorem x23_8 : Ev L xs ρ 23 8 [some (.ref a), l1] st σ r ↔ Ev L xs ρ 23 9 [some (.ref a), l1] (.ref a :: st) σ r := ev_aload_n cm_23 dX3_need_8 rfl rfl
theorem x23_9 : Ev L xs ρ 23 9 [l0, l1] (.ref a :: st) σ r ↔ Ev L xs ρ 23 10 [l0, l1] (.ref a :: .ref a :: st) σ r := ev_nx (ev_ex cm_23 dX3_need_9 rfl rfl)
theorem x23_10 : Ev L xs ρ 23 10 [l0, l1] (.ref a :: st) (n, I, Lm, Rm) r ↔ (a < n ∧ shp a = (0, 3)) ∧ Ev L xs ρ 23 13 [l0, l1] (.int (I a 6) :: st) (n, I, Lm, Rm) r := ev_gtI cm_23 dX3_need_10 rfl rfl
theorem x23_13 : Ev L xs ρ 23 13 [l0, l1] st σ r ↔ Ev L xs ρ 23 14 [l0, l1] (.int (1) :: st) σ r := ev_iconst cm_23 dX3_need_13 (by decide)
theorem x23_14 : Ev L xs ρ 23 14 [l0, l1] (.int y :: .int x :: st) σ r ↔ Ev L xs ρ 23 15 [l0, l1] (.int (x + y) :: st) σ r := ev_nx (ev_ex cm_23 dX3_need_14 rfl rfl)
theorem x23_15 : Ev L xs ρ 23 15 [l0, l1] (.int x :: .ref a :: st) (n, I, Lm, Rm) r ↔ (a < n ∧ shp a = (0, 3)) ∧ Ev L xs ρ 23 18 [l0, l1] st (n, up2 I a 6 x, Lm, Rm) r := ev_ptI cm_23 dX3_need_15 rfl rfl (Or.inl rfl)
theorem x23_18 : Ev L xs ρ 23 18 [l0, l1] st σ r ↔ Ev L xs ρ 23 27 [l0, l1] st σ r := ev_goto cm_23 dX3_need_18 (by decide)
theorem x23_21 : Ev L xs ρ 23 21 [some (.ref a), l1] st σ r ↔ Ev L xs ρ 23 22 [some (.ref a), l1] (.ref a :: st) σ r := ev_aload_n cm_23 dX3_need_21 rfl rfl
theorem x23_22 : Ev L xs ρ 23 22 [l0, l1] st σ r ↔ Ev L xs ρ 23 23 [l0, l1] (.int (1) :: st) σ r := ev_iconst cm_23 dX3_need_22 (by decide)
theorem x23_23 : Ev L xs ρ 23 23 [l0, l1] st σ r ↔ Ev L xs ρ 23 24 [l0, l1] (.int (0) :: st) σ r := ev_iconst cm_23 dX3_need_23 (by decide)
theorem x23_24 : Ev L xs 2 23 24 [l0, l1] (.int y :: .int x :: .ref a :: []) (n, I, Lm, Rm) r ↔ (a < n ∧ shp a = (0, 3)) ∧ ∃ v n2 I2 L2 R2, Em L xs 21 [.ref a, .int x, .int y] (n, I, Lm, Rm) (v, n2, I2, L2, R2) ∧ Ev L xs 2 23 27 [l0, l1] (v.toList ++ []) (n2, I2, L2, R2) r := ev_cV cm_23 [.int x, .int y] dX3_need_24 rfl rfl rfl rfl (Nat.le_of_ble_eq_true rfl) (rka_lt rfl (by decide)) (Nat.le_of_ble_eq_true rfl)
theorem x23_27 : Ev L xs ρ 23 27 [l0, l1] [] σ r ↔ r = (none, σ) := ev_retv cm_23 dX3_need_27 rfl
theorem cm_24 : mcd 24 = cX3_readNumber := rfl
theorem em_24 : Em L xs 24 [.ref a, .int x, .int y] σ r ↔ Ev L xs 2 24 0 [some (.ref a), some (.int x), some (.int y), none] [] σ r := Iff.rfl
theorem x24_0 : Ev L xs ρ 24 0 [some (.ref a), l1, l2, l3] st σ r ↔ Ev L xs ρ 24 1 [some (.ref a), l1, l2, l3] (.ref a :: st) σ r := ev_aload_n cm_24 dX3_readNumber_0 rfl rfl
theorem x24_1 : Ev L xs ρ 24 1 [l0, l1, l2, l3] (.ref a :: st) (n, I, Lm, Rm) r ↔ (a < n ∧ shp a = (0, 3)) ∧ Ev L xs ρ 24 4 [l0, l1, l2, l3] (rfv (Rm a 0) :: st) (n, I, Lm, Rm) r := ev_gtR cm_24 dX3_readNumber_1 rfl rfl
theorem x24_4 : Ev L xs ρ 24 4 [l0, l1, l2, l3] (.ref a :: st) (n, I, Lm, Rm) r ↔ (a < n ∧ shp a = (0, 7)) ∧ Ev L xs ρ 24 7 [l0, l1, l2, l3] (rfv (Rm a 4) :: st) (n, I, Lm, Rm) r := ev_gtR cm_24 dX3_readNumber_4 rfl rfl
theorem x24_7 : Ev L xs ρ 24 7 [some (.ref a), l1, l2, l3] st σ r ↔ Ev L xs ρ 24 8 [some (.ref a), l1, l2, l3] (.ref a :: st) σ r := ev_aload_n cm_24 dX3_readNumber_7 rfl rfl
theorem x24_8 : Ev L xs ρ 24 8 [l0, l1, l2, l3] (.ref a :: st) (n, I, Lm, Rm) r ↔ (a < n ∧ shp a = (0, 3)) ∧ Ev L xs ρ 24 11 [l0, l1, l2, l3] (.int (I a 6) :: st) (n, I, Lm, Rm) r := ev_gtI cm_24 dX3_readNumber_8 rfl rfl
theorem x24_11 : Ev L xs 2 24 11 [l0, l1, l2, l3] (.int x :: .ref a :: []) σ r ↔ ∃ v n2 I2 L2 R2, Em L xs 160 [.ref a, .int x] σ (v, n2, I2, L2, R2) ∧ Ev L xs 2 24 14 [l0, l1, l2, l3] (v.toList ++ []) (n2, I2, L2, R2) r := ev_cS cm_24 [.ref a, .int x] dX3_readNumber_11 rfl rfl rfl (Nat.le_of_ble_eq_true rfl) (rka_lt rfl (by decide)) (Nat.le_of_ble_eq_true rfl)
theorem x24_14 : Ev L xs ρ 24 14 [l0, l1, l2, l3] (.int x :: st) σ r ↔ Ev L xs ρ 24 15 [l0, l1, l2, some (.int x)] st σ r := ev_istore_n cm_24 dX3_readNumber_14 rfl (Nat.le_of_ble_eq_true rfl)
theorem x24_15 : Ev L xs ρ 24 15 [some (.ref a), l1, l2, l3] st σ r ↔ Ev L xs ρ 24 16 [some (.ref a), l1, l2, l3] (.ref a :: st) σ r := ev_aload_n cm_24 dX3_readNumber_15 rfl rfl
theorem x24_16 : Ev L xs 2 24 16 [l0, l1, l2, l3] (.ref a :: []) (n, I, Lm, Rm) r ↔ (a < n ∧ shp a = (0, 3)) ∧ ∃ v n2 I2 L2 R2, Em L xs 20 [.ref a] (n, I, Lm, Rm) (v, n2, I2, L2, R2) ∧ Ev L xs 2 24 19 [l0, l1, l2, l3] (v.toList ++ []) (n2, I2, L2, R2) r := ev_cV cm_24 [] dX3_readNumber_16 rfl rfl rfl rfl (Nat.le_of_ble_eq_true rfl) (rka_lt rfl (by decide)) (Nat.le_of_ble_eq_true rfl)
theorem x24_19 : Ev L xs ρ 24 19 [l0, l1, l2, l3] st σ r ↔ Ev L xs ρ 24 21 [l0, l1, l2, l3] (.int (41) :: st) σ r := ev_bipush cm_24 dX3_readNumber_19 (by decide)
theorem x24_21 : Ev L xs ρ 24 21 [l0, l1, l2, l3] (.int y :: .int x :: st) σ r ↔ if x = y then Ev L xs ρ 24 33 [l0, l1, l2, l3] st σ r else Ev L xs ρ 24 24 [l0, l1, l2, l3] st σ r := ev_iceq cm_24 dX3_readNumber_21 (by decide)
theorem x24_24 : Ev L xs ρ 24 24 [some (.ref a), l1, l2, l3] st σ r ↔ Ev L xs ρ 24 25 [some (.ref a), l1, l2, l3] (.ref a :: st) σ r := ev_aload_n cm_24 dX3_readNumber_24 rfl rfl
theorem x24_25 : Ev L xs ρ 24 25 [l0, l1, l2, l3] st σ r ↔ Ev L xs ρ 24 26 [l0, l1, l2, l3] (.int (1) :: st) σ r := ev_iconst cm_24 dX3_readNumber_25 (by decide)
theorem x24_26 : Ev L xs ρ 24 26 [l0, l1, l2, l3] st σ r ↔ Ev L xs ρ 24 27 [l0, l1, l2, l3] (.int (0) :: st) σ r := ev_iconst cm_24 dX3_readNumber_26 (by decide)
theorem x24_27 : Ev L xs 2 24 27 [l0, l1, l2, l3] (.int y :: .int x :: .ref a :: []) (n, I, Lm, Rm) r ↔ (a < n ∧ shp a = (0, 3)) ∧ ∃ v n2 I2 L2 R2, Em L xs 21 [.ref a, .int x, .int y] (n, I, Lm, Rm) (v, n2, I2, L2, R2) ∧ Ev L xs 2 24 30 [l0, l1, l2, l3] (v.toList ++ []) (n2, I2, L2, R2) r := ev_cV cm_24 [.int x, .int y] dX3_readNumber_27 rfl rfl rfl rfl (Nat.le_of_ble_eq_true rfl) (rka_lt rfl (by decide)) (Nat.le_of_ble_eq_true rfl)
theorem x24_30 : Ev L xs ρ 24 30 [l0, l1, l2, l3] st σ r ↔ Ev L xs ρ 24 76 [l0, l1, l2, l3] st σ r := ev_goto cm_24 dX3_readNumber_30 (by decide)
theorem x24_33 : Ev L xs ρ 24 33 [some (.ref a), l1, l2, l3] st σ r ↔ Ev L xs ρ 24 34 [some (.ref a), l1, l2, l3] (.ref a :: st) σ r := ev_aload_n cm_24 dX3_readNumber_33 rfl rfl
theorem x24_34 : Ev L xs ρ 24 34 [l0, l1, l2, l3] (.ref a :: st) (n, I, Lm, Rm) r ↔ (a < n ∧ shp a = (0, 3)) ∧ Ev L xs ρ 24 37 [l0, l1, l2, l3] (rfv (Rm a 0) :: st) (n, I, Lm, Rm) r := ev_gtR cm_24 dX3_readNumber_34 rfl rfl
theorem x24_37 : Ev L xs ρ 24 37 [l0, l1, l2, l3] (.ref a :: st) (n, I, Lm, Rm) r ↔ (a < n ∧ shp a = (0, 7)) ∧ Ev L xs ρ 24 40 [l0, l1, l2, l3] (rfv (Rm a 3) :: st) (n, I, Lm, Rm) r := ev_gtR cm_24 dX3_readNumber_37 rfl rfl
theorem x24_40 : Ev L xs ρ 24 40 [some (.ref a), l1, l2, l3] st σ r ↔ Ev L xs ρ 24 41 [some (.ref a), l1, l2, l3] (.ref a :: st) σ r := ev_aload_n cm_24 dX3_readNumber_40 rfl rfl
theorem x24_41 : Ev L xs ρ 24 41 [l0, l1, l2, l3] (.ref a :: st) (n, I, Lm, Rm) r ↔ (a < n ∧ shp a = (0, 3)) ∧ Ev L xs ρ 24 44 [l0, l1, l2, l3] (.int (I a 6) :: st) (n, I, Lm, Rm) r := ev_gtI cm_24 dX3_readNumber_41 rfl rfl
theorem x24_44 : Ev L xs 2 24 44 [l0, l1, l2, l3] (.int x :: .ref a :: []) σ r ↔ ∃ v n2 I2 L2 R2, Em L xs 160 [.ref a, .int x] σ (v, n2, I2, L2, R2) ∧ Ev L xs 2 24 47 [l0, l1, l2, l3] (v.toList ++ []) (n2, I2, L2, R2) r := ev_cS cm_24 [.ref a, .int x] dX3_readNumber_44 rfl rfl rfl (Nat.le_of_ble_eq_true rfl) (rka_lt rfl (by decide)) (Nat.le_of_ble_eq_true rfl)
theorem x24_47 : Ev L xs ρ 24 47 [l0, l1, l2, l3] st σ r ↔ Ev L xs ρ 24 48 [l0, l1, l2, l3] (.int (4) :: st) σ r := ev_iconst cm_24 dX3_readNumber_47 (by decide)
theorem x24_48 : Ev L xs ρ 24 48 [l0, l1, l2, l3] (.int y :: .int x :: st) σ r ↔ if x ≤ y then Ev L xs ρ 24 60 [l0, l1, l2, l3] st σ r else Ev L xs ρ 24 51 [l0, l1, l2, l3] st σ r := ev_icle cm_24 dX3_readNumber_48 (by decide)
theorem x24_51 : Ev L xs ρ 24 51 [some (.ref a), l1, l2, l3] st σ r ↔ Ev L xs ρ 24 52 [some (.ref a), l1, l2, l3] (.ref a :: st) σ r := ev_aload_n cm_24 dX3_readNumber_51 rfl rfl
theorem x24_52 : Ev L xs ρ 24 52 [l0, l1, l2, l3] st σ r ↔ Ev L xs ρ 24 53 [l0, l1, l2, l3] (.int (1) :: st) σ r := ev_iconst cm_24 dX3_readNumber_52 (by decide)
theorem x24_53 : Ev L xs ρ 24 53 [l0, l1, l2, l3] st σ r ↔ Ev L xs ρ 24 54 [l0, l1, l2, l3] (.int (4) :: st) σ r := ev_iconst cm_24 dX3_readNumber_53 (by decide)
theorem x24_54 : Ev L xs 2 24 54 [l0, l1, l2, l3] (.int y :: .int x :: .ref a :: []) (n, I, Lm, Rm) r ↔ (a < n ∧ shp a = (0, 3)) ∧ ∃ v n2 I2 L2 R2, Em L xs 21 [.ref a, .int x, .int y] (n, I, Lm, Rm) (v, n2, I2, L2, R2) ∧ Ev L xs 2 24 57 [l0, l1, l2, l3] (v.toList ++ []) (n2, I2, L2, R2) r := ev_cV cm_24 [.int x, .int y] dX3_readNumber_54 rfl rfl rfl rfl (Nat.le_of_ble_eq_true rfl) (rka_lt rfl (by decide)) (Nat.le_of_ble_eq_true rfl)
theorem x24_57 : Ev L xs ρ 24 57 [l0, l1, l2, l3] st σ r ↔ Ev L xs ρ 24 76 [l0, l1, l2, l3] st σ r := ev_goto cm_24 dX3_readNumber_57 (by decide)
theorem x24_60 : Ev L xs ρ 24 60 [l0, l1, l2, some (.int x)] st σ r ↔ Ev L xs ρ 24 61 [l0, l1, l2, some (.int x)] (.int x :: st) σ r := ev_iload_n cm_24 dX3_readNumber_60 rfl rfl
theorem x24_61 : Ev L xs ρ 24 61 [l0, some (.int x), l2, l3] st σ r ↔ Ev L xs ρ 24 62 [l0, some (.int x), l2, l3] (.int x :: st) σ r := ev_iload_n cm_24 dX3_readNumber_61 rfl rfl
theorem x24_62 : Ev L xs ρ 24 62 [l0, l1, l2, l3] (.int y :: .int x :: st) σ r ↔ if x < y then Ev L xs ρ 24 70 [l0, l1, l2, l3] st σ r else Ev L xs ρ 24 65 [l0, l1, l2, l3] st σ r := ev_iclt cm_24 dX3_readNumber_62 (by decide)
theorem x24_65 : Ev L xs ρ 24 65 [l0, l1, l2, some (.int x)] st σ r ↔ Ev L xs ρ 24 66 [l0, l1, l2, some (.int x)] (.int x :: st) σ r := ev_iload_n cm_24 dX3_readNumber_65 rfl rfl
theorem x24_66 : Ev L xs ρ 24 66 [l0, l1, some (.int x), l3] st σ r ↔ Ev L xs ρ 24 67 [l0, l1, some (.int x), l3] (.int x :: st) σ r := ev_iload_n cm_24 dX3_readNumber_66 rfl rfl
theorem x24_67 : Ev L xs ρ 24 67 [l0, l1, l2, l3] (.int y :: .int x :: st) σ r ↔ if x ≤ y then Ev L xs ρ 24 76 [l0, l1, l2, l3] st σ r else Ev L xs ρ 24 70 [l0, l1, l2, l3] st σ r := ev_icle cm_24 dX3_readNumber_67 (by decide)
theorem x24_70 : Ev L xs ρ 24 70 [some (.ref a), l1, l2, l3] st σ r ↔ Ev L xs ρ 24 71 [some (.ref a), l1, l2, l3] (.ref a :: st) σ r := ev_aload_n cm_24 dX3_readNumber_70 rfl rfl
theorem x24_71 : Ev L xs ρ 24 71 [l0, l1, l2, l3] st σ r ↔ Ev L xs ρ 24 72 [l0, l1, l2, l3] (.int (2) :: st) σ r := ev_iconst cm_24 dX3_readNumber_71 (by decide)
theorem x24_72 : Ev L xs ρ 24 72 [l0, l1, l2, l3] st σ r ↔ Ev L xs ρ 24 73 [l0, l1, l2, l3] (.int (0) :: st) σ r := ev_iconst cm_24 dX3_readNumber_72 (by decide)
theorem x24_73 : Ev L xs 2 24 73 [l0, l1, l2, l3] (.int y :: .int x :: .ref a :: []) (n, I, Lm, Rm) r ↔ (a < n ∧ shp a = (0, 3)) ∧ ∃ v n2 I2 L2 R2, Em L xs 21 [.ref a, .int x, .int y] (n, I, Lm, Rm) (v, n2, I2, L2, R2) ∧ Ev L xs 2 24 76 [l0, l1, l2, l3] (v.toList ++ []) (n2, I2, L2, R2) r := ev_cV cm_24 [.int x, .int y] dX3_readNumber_73 rfl rfl rfl rfl (Nat.le_of_ble_eq_true rfl) (rka_lt rfl (by decide)) (Nat.le_of_ble_eq_true rfl)
theorem x24_76 : Ev L xs ρ 24 76 [some (.ref a), l1, l2, l3] st σ r ↔ Ev L xs ρ 24 77 [some (.ref a), l1, l2, l3] (.ref a :: st) σ r := ev_aload_n cm_24 dX3_readNumber_76 rfl rfl
theorem x24_77 : Ev L xs ρ 24 77 [l0, l1, l2, l3] (.ref a :: st) σ r ↔ Ev L xs ρ 24 78 [l0, l1, l2, l3] (.ref a :: .ref a :: st) σ r := ev_nx (ev_ex cm_24 dX3_readNumber_77 rfl rfl)
theorem x24_78 : Ev L xs ρ 24 78 [l0, l1, l2, l3] (.ref a :: st) (n, I, Lm, Rm) r ↔ (a < n ∧ shp a = (0, 3)) ∧ Ev L xs ρ 24 81 [l0, l1, l2, l3] (.int (I a 6) :: st) (n, I, Lm, Rm) r := ev_gtI cm_24 dX3_readNumber_78 rfl rfl
theorem x24_81 : Ev L xs ρ 24 81 [l0, l1, l2, l3] st σ r ↔ Ev L xs ρ 24 82 [l0, l1, l2, l3] (.int (1) :: st) σ r := ev_iconst cm_24 dX3_readNumber_81 (by decide)
theorem x24_82 : Ev L xs ρ 24 82 [l0, l1, l2, l3] (.int y :: .int x :: st) σ r ↔ Ev L xs ρ 24 83 [l0, l1, l2, l3] (.int (x + y) :: st) σ r := ev_nx (ev_ex cm_24 dX3_readNumber_82 rfl rfl)
theorem x24_83 : Ev L xs ρ 24 83 [l0, l1, l2, l3] (.int x :: .ref a :: st) (n, I, Lm, Rm) r ↔ (a < n ∧ shp a = (0, 3)) ∧ Ev L xs ρ 24 86 [l0, l1, l2, l3] st (n, up2 I a 6 x, Lm, Rm) r := ev_ptI cm_24 dX3_readNumber_83 rfl rfl (Or.inl rfl)
theorem x24_86 : Ev L xs ρ 24 86 [l0, l1, l2, some (.int x)] st σ r ↔ Ev L xs ρ 24 87 [l0, l1, l2, some (.int x)] (.int x :: st) σ r := ev_iload_n cm_24 dX3_readNumber_86 rfl rfl
theorem x24_87 : Ev L xs ρ 24 87 [l0, l1, l2, l3] [.int x] σ r ↔ r = (some (.int x), σ) := ev_reti cm_24 dX3_readNumber_87 rfl
theorem cm_25 : mcd 25 = cX3_numberAfter := rfl
theorem em_25 : Em L xs 25 [.ref a, .int x, .int y, .int z] σ r ↔ Ev L xs 3 25 0 [some (.ref a), some (.int x), some (.int y), some (.int z)] [] σ r := Iff.rfl
theorem x25_0 : Ev L xs ρ 25 0 [some (.ref a), l1, l2, l3] st σ r ↔ Ev L xs ρ 25 1 [some (.ref a), l1, l2, l3] (.ref a :: st) σ r := ev_aload_n cm_25 dX3_numberAfter_0 rfl rfl
theorem x25_1 : Ev L xs ρ 25 1 [l0, some (.int x), l2, l3] st σ r ↔ Ev L xs ρ 25 2 [l0, some (.int x), l2, l3] (.int x :: st) σ r := ev_iload_n cm_25 dX3_numberAfter_1 rfl rfl
theorem x25_2 : Ev L xs 3 25 2 [l0, l1, l2, l3] (.int x :: .ref a :: []) (n, I, Lm, Rm) r ↔ (a < n ∧ shp a = (0, 3)) ∧ ∃ v n2 I2 L2 R2, Em L xs 23 [.ref a, .int x] (n, I, Lm, Rm) (v, n2, I2, L2, R2) ∧ Ev L xs 3 25 5 [l0, l1, l2, l3] (v.toList ++ []) (n2, I2, L2, R2) r := ev_cV cm_25 [.int x] dX3_numberAfter_2 rfl rfl rfl rfl (Nat.le_of_ble_eq_true rfl) (rka_lt rfl (by decide)) (Nat.le_of_ble_eq_true rfl)
theorem x25_5 : Ev L xs ρ 25 5 [some (.ref a), l1, l2, l3] st σ r ↔ Ev L xs ρ 25 6 [some (.ref a), l1, l2, l3] (.ref a :: st) σ r := ev_aload_n cm_25 dX3_numberAfter_5 rfl rfl
theorem x25_6 : Ev L xs ρ 25 6 [l0, l1, some (.int x), l3] st σ r ↔ Ev L xs ρ 25 7 [l0, l1, some (.int x), l3] (.int x :: st) σ r := ev_iload_n cm_25 dX3_numberAfter_6 rfl rfl
theorem x25_7 : Ev L xs ρ 25 7 [l0, l1, l2, some (.int x)] st σ r ↔ Ev L xs ρ 25 8 [l0, l1, l2, some (.int x)] (.int x :: st) σ r := ev_iload_n cm_25 dX3_numberAfter_7 rfl rfl
theorem x25_8 : Ev L xs 3 25 8 [l0, l1, l2, l3] (.int y :: .int x :: .ref a :: []) (n, I, Lm, Rm) r ↔ (a < n ∧ shp a = (0, 3)) ∧ ∃ v n2 I2 L2 R2, Em L xs 24 [.ref a, .int x, .int y] (n, I, Lm, Rm) (v, n2, I2, L2, R2) ∧ Ev L xs 3 25 11 [l0, l1, l2, l3] (v.toList ++ []) (n2, I2, L2, R2) r := ev_cV cm_25 [.int x, .int y] dX3_numberAfter_8 rfl rfl rfl rfl (Nat.le_of_ble_eq_true rfl) (rka_lt rfl (by decide)) (Nat.le_of_ble_eq_true rfl)
theorem x25_11 : Ev L xs ρ 25 11 [l0, l1, l2, l3] [.int x] σ r ↔ r = (some (.int x), σ) := ev_reti cm_25 dX3_numberAfter_11 rfl
theorem cm_26 : mcd 26 = cX3_isNameNext := rfl
theorem em_26 : Em L xs 26 [.ref a] σ r ↔ Ev L xs 2 26 0 [some (.ref a)] [] σ r := Iff.rfl
theorem x26_0 : Ev L xs ρ 26 0 [some (.ref a)] st σ r ↔ Ev L xs ρ 26 1 [some (.ref a)] (.ref a :: st) σ r := ev_aload_n cm_26 dX3_isNameNext_0 rfl rfl
theorem x26_1 : Ev L xs 2 26 1 [l0] (.ref a :: []) (n, I, Lm, Rm) r ↔ (a < n ∧ shp a = (0, 3)) ∧ ∃ v n2 I2 L2 R2, Em L xs 20 [.ref a] (n, I, Lm, Rm) (v, n2, I2, L2, R2) ∧ Ev L xs 2 26 4 [l0] (v.toList ++ []) (n2, I2, L2, R2) r := ev_cV cm_26 [] dX3_isNameNext_1 rfl rfl rfl rfl (Nat.le_of_ble_eq_true rfl) (rka_lt rfl (by decide)) (Nat.le_of_ble_eq_true rfl)
theorem x26_4 : Ev L xs ρ 26 4 [l0] st σ r ↔ Ev L xs ρ 26 6 [l0] (.int (40) :: st) σ r := ev_bipush cm_26 dX3_isNameNext_4 (by decide)
theorem x26_6 : Ev L xs ρ 26 6 [l0] (.int y :: .int x :: st) σ r ↔ if x = y then Ev L xs ρ 26 18 [l0] st σ r else Ev L xs ρ 26 9 [l0] st σ r := ev_iceq cm_26 dX3_isNameNext_6 (by decide)
theorem x26_9 : Ev L xs ρ 26 9 [some (.ref a)] st σ r ↔ Ev L xs ρ 26 10 [some (.ref a)] (.ref a :: st) σ r := ev_aload_n cm_26 dX3_isNameNext_9 rfl rfl
theorem x26_10 : Ev L xs ρ 26 10 [l0] st σ r ↔ Ev L xs ρ 26 11 [l0] (.int (1) :: st) σ r := ev_iconst cm_26 dX3_isNameNext_10 (by decide)
theorem x26_11 : Ev L xs ρ 26 11 [l0] st σ r ↔ Ev L xs ρ 26 12 [l0] (.int (0) :: st) σ r := ev_iconst cm_26 dX3_isNameNext_11 (by decide)
theorem x26_12 : Ev L xs 2 26 12 [l0] (.int y :: .int x :: .ref a :: []) (n, I, Lm, Rm) r ↔ (a < n ∧ shp a = (0, 3)) ∧ ∃ v n2 I2 L2 R2, Em L xs 21 [.ref a, .int x, .int y] (n, I, Lm, Rm) (v, n2, I2, L2, R2) ∧ Ev L xs 2 26 15 [l0] (v.toList ++ []) (n2, I2, L2, R2) r := ev_cV cm_26 [.int x, .int y] dX3_isNameNext_12 rfl rfl rfl rfl (Nat.le_of_ble_eq_true rfl) (rka_lt rfl (by decide)) (Nat.le_of_ble_eq_true rfl)
theorem x26_15 : Ev L xs ρ 26 15 [l0] st σ r ↔ Ev L xs ρ 26 44 [l0] st σ r := ev_goto cm_26 dX3_isNameNext_15 (by decide)
theorem x26_18 : Ev L xs ρ 26 18 [some (.ref a)] st σ r ↔ Ev L xs ρ 26 19 [some (.ref a)] (.ref a :: st) σ r := ev_aload_n cm_26 dX3_isNameNext_18 rfl rfl
theorem x26_19 : Ev L xs ρ 26 19 [l0] (.ref a :: st) (n, I, Lm, Rm) r ↔ (a < n ∧ shp a = (0, 3)) ∧ Ev L xs ρ 26 22 [l0] (rfv (Rm a 0) :: st) (n, I, Lm, Rm) r := ev_gtR cm_26 dX3_isNameNext_19 rfl rfl
theorem x26_22 : Ev L xs ρ 26 22 [l0] (.ref a :: st) (n, I, Lm, Rm) r ↔ (a < n ∧ shp a = (0, 7)) ∧ Ev L xs ρ 26 25 [l0] (rfv (Rm a 3) :: st) (n, I, Lm, Rm) r := ev_gtR cm_26 dX3_isNameNext_22 rfl rfl
theorem x26_25 : Ev L xs ρ 26 25 [some (.ref a)] st σ r ↔ Ev L xs ρ 26 26 [some (.ref a)] (.ref a :: st) σ r := ev_aload_n cm_26 dX3_isNameNext_25 rfl rfl
theorem x26_26 : Ev L xs ρ 26 26 [l0] (.ref a :: st) (n, I, Lm, Rm) r ↔ (a < n ∧ shp a = (0, 3)) ∧ Ev L xs ρ 26 29 [l0] (.int (I a 6) :: st) (n, I, Lm, Rm) r := ev_gtI cm_26 dX3_isNameNext_26 rfl rfl
theorem x26_29 : Ev L xs 2 26 29 [l0] (.int x :: .ref a :: []) σ r ↔ ∃ v n2 I2 L2 R2, Em L xs 160 [.ref a, .int x] σ (v, n2, I2, L2, R2) ∧ Ev L xs 2 26 32 [l0] (v.toList ++ []) (n2, I2, L2, R2) r := ev_cS cm_26 [.ref a, .int x] dX3_isNameNext_29 rfl rfl rfl (Nat.le_of_ble_eq_true rfl) (rka_lt rfl (by decide)) (Nat.le_of_ble_eq_true rfl)
theorem x26_32 : Ev L xs ρ 26 32 [l0] st σ r ↔ Ev L xs ρ 26 34 [l0] (.int (6) :: st) σ r := ev_bipush cm_26 dX3_isNameNext_32 (by decide)
theorem x26_34 : Ev L xs ρ 26 34 [l0] (.int y :: .int x :: st) σ r ↔ if x ≤ y then Ev L xs ρ 26 44 [l0] st σ r else Ev L xs ρ 26 37 [l0] st σ r := ev_icle cm_26 dX3_isNameNext_34 (by decide)
theorem x26_37 : Ev L xs ρ 26 37 [some (.ref a)] st σ r ↔ Ev L xs ρ 26 38 [some (.ref a)] (.ref a :: st) σ r := ev_aload_n cm_26 dX3_isNameNext_37 rfl rfl
theorem x26_38 : Ev L xs ρ 26 38 [l0] st σ r ↔ Ev L xs ρ 26 39 [l0] (.int (1) :: st) σ r := ev_iconst cm_26 dX3_isNameNext_38 (by decide)
theorem x26_39 : Ev L xs ρ 26 39 [l0] st σ r ↔ Ev L xs ρ 26 41 [l0] (.int (6) :: st) σ r := ev_bipush cm_26 dX3_isNameNext_39 (by decide)
theorem x26_41 : Ev L xs 2 26 41 [l0] (.int y :: .int x :: .ref a :: []) (n, I, Lm, Rm) r ↔ (a < n ∧ shp a = (0, 3)) ∧ ∃ v n2 I2 L2 R2, Em L xs 21 [.ref a, .int x, .int y] (n, I, Lm, Rm) (v, n2, I2, L2, R2) ∧ Ev L xs 2 26 44 [l0] (v.toList ++ []) (n2, I2, L2, R2) r := ev_cV cm_26 [.int x, .int y] dX3_isNameNext_41 rfl rfl rfl rfl (Nat.le_of_ble_eq_true rfl) (rka_lt rfl (by decide)) (Nat.le_of_ble_eq_true rfl)
theorem x26_44 : Ev L xs ρ 26 44 [some (.ref a)] st σ r ↔ Ev L xs ρ 26 45 [some (.ref a)] (.ref a :: st) σ r := ev_aload_n cm_26 dX3_isNameNext_44 rfl rfl
theorem x26_45 : Ev L xs 2 26 45 [l0] (.ref a :: []) (n, I, Lm, Rm) r ↔ (a < n ∧ shp a = (0, 3)) ∧ ∃ v n2 I2 L2 R2, Em L xs 18 [.ref a] (n, I, Lm, Rm) (v, n2, I2, L2, R2) ∧ Ev L xs 2 26 48 [l0] (v.toList ++ []) (n2, I2, L2, R2) r := ev_cV cm_26 [] dX3_isNameNext_45 rfl rfl rfl rfl (Nat.le_of_ble_eq_true rfl) (rka_lt rfl (by decide)) (Nat.le_of_ble_eq_true rfl)
theorem x26_48 : Ev L xs ρ 26 48 [l0] [.int x] σ r ↔ (x = 0 ∨ x = 1) ∧ r = (some (.int x), σ) := ev_retz cm_26 dX3_isNameNext_48 rfl
theorem cm_27 : mcd 27 = cX3_readNewName := rfl
theorem em_27 : Em L xs 27 [.ref a] σ r ↔ Ev L xs 3 27 0 [some (.ref a), none] [] σ r := Iff.rfl
theorem x27_0 : Ev L xs ρ 27 0 [some (.ref a), l1] st σ r ↔ Ev L xs ρ 27 1 [some (.ref a), l1] (.ref a :: st) σ r := ev_aload_n cm_27 dX3_readNewName_0 rfl rfl
theorem x27_1 : Ev L xs ρ 27 1 [l0, l1] (.ref a :: st) (n, I, Lm, Rm) r ↔ (a < n ∧ shp a = (0, 3)) ∧ Ev L xs ρ 27 4 [l0, l1] (rfv (Rm a 0) :: st) (n, I, Lm, Rm) r := ev_gtR cm_27 dX3_readNewName_1 rfl rfl
theorem x27_4 : Ev L xs ρ 27 4 [l0, l1] (.ref a :: st) (n, I, Lm, Rm) r ↔ (a < n ∧ shp a = (0, 7)) ∧ Ev L xs ρ 27 7 [l0, l1] (rfv (Rm a 4) :: st) (n, I, Lm, Rm) r := ev_gtR cm_27 dX3_readNewName_4 rfl rfl
theorem x27_7 : Ev L xs ρ 27 7 [some (.ref a), l1] st σ r ↔ Ev L xs ρ 27 8 [some (.ref a), l1] (.ref a :: st) σ r := ev_aload_n cm_27 dX3_readNewName_7 rfl rfl
theorem x27_8 : Ev L xs ρ 27 8 [l0, l1] (.ref a :: st) (n, I, Lm, Rm) r ↔ (a < n ∧ shp a = (0, 3)) ∧ Ev L xs ρ 27 11 [l0, l1] (.int (I a 6) :: st) (n, I, Lm, Rm) r := ev_gtI cm_27 dX3_readNewName_8 rfl rfl
theorem x27_11 : Ev L xs 3 27 11 [l0, l1] (.int x :: .ref a :: []) σ r ↔ ∃ v n2 I2 L2 R2, Em L xs 160 [.ref a, .int x] σ (v, n2, I2, L2, R2) ∧ Ev L xs 3 27 14 [l0, l1] (v.toList ++ []) (n2, I2, L2, R2) r := ev_cS cm_27 [.ref a, .int x] dX3_readNewName_11 rfl rfl rfl (Nat.le_of_ble_eq_true rfl) (rka_lt rfl (by decide)) (Nat.le_of_ble_eq_true rfl)
theorem x27_14 : Ev L xs ρ 27 14 [l0, l1] (.int x :: st) σ r ↔ Ev L xs ρ 27 15 [l0, some (.int x)] st σ r := ev_istore_n cm_27 dX3_readNewName_14 rfl (Nat.le_of_ble_eq_true rfl)
theorem x27_15 : Ev L xs ρ 27 15 [some (.ref a), l1] st σ r ↔ Ev L xs ρ 27 16 [some (.ref a), l1] (.ref a :: st) σ r := ev_aload_n cm_27 dX3_readNewName_15 rfl rfl
theorem x27_16 : Ev L xs 3 27 16 [l0, l1] (.ref a :: []) (n, I, Lm, Rm) r ↔ (a < n ∧ shp a = (0, 3)) ∧ ∃ v n2 I2 L2 R2, Em L xs 26 [.ref a] (n, I, Lm, Rm) (v, n2, I2, L2, R2) ∧ Ev L xs 3 27 19 [l0, l1] (v.toList ++ []) (n2, I2, L2, R2) r := ev_cV cm_27 [] dX3_readNewName_16 rfl rfl rfl rfl (Nat.le_of_ble_eq_true rfl) (rka_lt rfl (by decide)) (Nat.le_of_ble_eq_true rfl)
theorem x27_19 : Ev L xs ρ 27 19 [l0, l1] (.int x :: st) σ r ↔ if x = 0 then Ev L xs ρ 27 36 [l0, l1] st σ r else Ev L xs ρ 27 22 [l0, l1] st σ r := ev_ifeq cm_27 dX3_readNewName_19 (by decide)
theorem x27_22 : Ev L xs ρ 27 22 [some (.ref a), l1] st σ r ↔ Ev L xs ρ 27 23 [some (.ref a), l1] (.ref a :: st) σ r := ev_aload_n cm_27 dX3_readNewName_22 rfl rfl
theorem x27_23 : Ev L xs ρ 27 23 [l0, some (.int x)] st σ r ↔ Ev L xs ρ 27 24 [l0, some (.int x)] (.int x :: st) σ r := ev_iload_n cm_27 dX3_readNewName_23 rfl rfl
theorem x27_24 : Ev L xs 3 27 24 [l0, l1] (.int x :: .ref a :: []) (n, I, Lm, Rm) r ↔ (a < n ∧ shp a = (0, 3)) ∧ ∃ v n2 I2 L2 R2, Em L xs 28 [.ref a, .int x] (n, I, Lm, Rm) (v, n2, I2, L2, R2) ∧ Ev L xs 3 27 27 [l0, l1] (v.toList ++ []) (n2, I2, L2, R2) r := ev_cV cm_27 [.int x] dX3_readNewName_24 rfl rfl rfl rfl (Nat.le_of_ble_eq_true rfl) (rka_lt rfl (by decide)) (Nat.le_of_ble_eq_true rfl)
theorem x27_27 : Ev L xs ρ 27 27 [l0, l1] (.int x :: st) σ r ↔ if x = 0 then Ev L xs ρ 27 36 [l0, l1] st σ r else Ev L xs ρ 27 30 [l0, l1] st σ r := ev_ifeq cm_27 dX3_readNewName_27 (by decide)
theorem x27_30 : Ev L xs ρ 27 30 [some (.ref a), l1] st σ r ↔ Ev L xs ρ 27 31 [some (.ref a), l1] (.ref a :: st) σ r := ev_aload_n cm_27 dX3_readNewName_30 rfl rfl
theorem x27_31 : Ev L xs ρ 27 31 [l0, l1] st σ r ↔ Ev L xs ρ 27 32 [l0, l1] (.int (3) :: st) σ r := ev_iconst cm_27 dX3_readNewName_31 (by decide)
theorem x27_32 : Ev L xs ρ 27 32 [l0, l1] st σ r ↔ Ev L xs ρ 27 33 [l0, l1] (.int (0) :: st) σ r := ev_iconst cm_27 dX3_readNewName_32 (by decide)
theorem x27_33 : Ev L xs 3 27 33 [l0, l1] (.int y :: .int x :: .ref a :: []) (n, I, Lm, Rm) r ↔ (a < n ∧ shp a = (0, 3)) ∧ ∃ v n2 I2 L2 R2, Em L xs 21 [.ref a, .int x, .int y] (n, I, Lm, Rm) (v, n2, I2, L2, R2) ∧ Ev L xs 3 27 36 [l0, l1] (v.toList ++ []) (n2, I2, L2, R2) r := ev_cV cm_27 [.int x, .int y] dX3_readNewName_33 rfl rfl rfl rfl (Nat.le_of_ble_eq_true rfl) (rka_lt rfl (by decide)) (Nat.le_of_ble_eq_true rfl)
theorem x27_36 : Ev L xs ρ 27 36 [some (.ref a), l1] st σ r ↔ Ev L xs ρ 27 37 [some (.ref a), l1] (.ref a :: st) σ r := ev_aload_n cm_27 dX3_readNewName_36 rfl rfl
theorem x27_37 : Ev L xs ρ 27 37 [l0, l1] (.ref a :: st) σ r ↔ Ev L xs ρ 27 38 [l0, l1] (.ref a :: .ref a :: st) σ r := ev_nx (ev_ex cm_27 dX3_readNewName_37 rfl rfl)
theorem x27_38 : Ev L xs ρ 27 38 [l0, l1] (.ref a :: st) (n, I, Lm, Rm) r ↔ (a < n ∧ shp a = (0, 3)) ∧ Ev L xs ρ 27 41 [l0, l1] (.int (I a 6) :: st) (n, I, Lm, Rm) r := ev_gtI cm_27 dX3_readNewName_38 rfl rfl
theorem x27_41 : Ev L xs ρ 27 41 [l0, l1] st σ r ↔ Ev L xs ρ 27 42 [l0, l1] (.int (1) :: st) σ r := ev_iconst cm_27 dX3_readNewName_41 (by decide)
theorem x27_42 : Ev L xs ρ 27 42 [l0, l1] (.int y :: .int x :: st) σ r ↔ Ev L xs ρ 27 43 [l0, l1] (.int (x + y) :: st) σ r := ev_nx (ev_ex cm_27 dX3_readNewName_42 rfl rfl)
theorem x27_43 : Ev L xs ρ 27 43 [l0, l1] (.int x :: .ref a :: st) (n, I, Lm, Rm) r ↔ (a < n ∧ shp a = (0, 3)) ∧ Ev L xs ρ 27 46 [l0, l1] st (n, up2 I a 6 x, Lm, Rm) r := ev_ptI cm_27 dX3_readNewName_43 rfl rfl (Or.inl rfl)
theorem x27_46 : Ev L xs ρ 27 46 [l0, some (.int x)] st σ r ↔ Ev L xs ρ 27 47 [l0, some (.int x)] (.int x :: st) σ r := ev_iload_n cm_27 dX3_readNewName_46 rfl rfl
theorem x27_47 : Ev L xs ρ 27 47 [l0, l1] [.int x] σ r ↔ r = (some (.int x), σ) := ev_reti cm_27 dX3_readNewName_47 rfl
theorem cm_28 : mcd 28 = cX3_isGiven := rfl
theorem em_28 : Em L xs 28 [.ref a, .int x] σ r ↔ Ev L xs 1 28 0 [some (.ref a), some (.int x)] [] σ r := Iff.rfl
theorem x28_0 : Ev L xs ρ 28 0 [some (.ref a), l1] st σ r ↔ Ev L xs ρ 28 1 [some (.ref a), l1] (.ref a :: st) σ r := ev_aload_n cm_28 dX3_isGiven_0 rfl rfl
theorem x28_1 : Ev L xs ρ 28 1 [l0, l1] (.ref a :: st) (n, I, Lm, Rm) r ↔ (a < n ∧ shp a = (0, 3)) ∧ Ev L xs ρ 28 4 [l0, l1] (rfv (Rm a 2) :: st) (n, I, Lm, Rm) r := ev_gtR cm_28 dX3_isGiven_1 rfl rfl
theorem x28_4 : Ev L xs ρ 28 4 [l0, l1] (.ref a :: st) (n, I, Lm, Rm) r ↔ (a < n ∧ shp a = (0, 6)) ∧ Ev L xs ρ 28 7 [l0, l1] (rfv (Rm a 0) :: st) (n, I, Lm, Rm) r := ev_gtR cm_28 dX3_isGiven_4 rfl rfl
theorem x28_7 : Ev L xs ρ 28 7 [some (.ref a), l1] st σ r ↔ Ev L xs ρ 28 8 [some (.ref a), l1] (.ref a :: st) σ r := ev_aload_n cm_28 dX3_isGiven_7 rfl rfl
theorem x28_8 : Ev L xs ρ 28 8 [l0, l1] (.ref a :: st) (n, I, Lm, Rm) r ↔ (a < n ∧ shp a = (0, 3)) ∧ Ev L xs ρ 28 11 [l0, l1] (rfv (Rm a 2) :: st) (n, I, Lm, Rm) r := ev_gtR cm_28 dX3_isGiven_8 rfl rfl
theorem x28_11 : Ev L xs ρ 28 11 [l0, l1] (.ref a :: st) (n, I, Lm, Rm) r ↔ (a < n ∧ shp a = (0, 6)) ∧ Ev L xs ρ 28 14 [l0, l1] (.int (I a 6) :: st) (n, I, Lm, Rm) r := ev_gtI cm_28 dX3_isGiven_11 rfl rfl
theorem x28_14 : Ev L xs ρ 28 14 [l0, some (.int x)] st σ r ↔ Ev L xs ρ 28 15 [l0, some (.int x)] (.int x :: st) σ r := ev_iload_n cm_28 dX3_isGiven_14 rfl rfl
theorem x28_15 : Ev L xs 1 28 15 [l0, l1] (.int y :: .int x :: .ref a :: []) σ r ↔ ∃ v n2 I2 L2 R2, Em L xs 165 [.ref a, .int x, .int y] σ (v, n2, I2, L2, R2) ∧ Ev L xs 1 28 18 [l0, l1] (v.toList ++ []) (n2, I2, L2, R2) r := ev_cS cm_28 [.ref a, .int x, .int y] dX3_isGiven_15 rfl rfl rfl (Nat.le_of_ble_eq_true rfl) (rka_lt rfl (by decide)) (Nat.le_of_ble_eq_true rfl)
theorem x28_18 : Ev L xs ρ 28 18 [l0, l1] st σ r ↔ Ev L xs ρ 28 19 [l0, l1] (.int (-1) :: st) σ r := ev_iconst cm_28 dX3_isGiven_18 (by decide)
theorem x28_19 : Ev L xs ρ 28 19 [l0, l1] (.int y :: .int x :: st) σ r ↔ if x = y then Ev L xs ρ 28 22 [l0, l1] st σ r else Ev L xs ρ 28 66 [l0, l1] st σ r := ev_icne cm_28 dX3_isGiven_19 (by decide)
theorem x28_22 : Ev L xs ρ 28 22 [some (.ref a), l1] st σ r ↔ Ev L xs ρ 28 23 [some (.ref a), l1] (.ref a :: st) σ r := ev_aload_n cm_28 dX3_isGiven_22 rfl rfl
theorem x28_23 : Ev L xs ρ 28 23 [l0, l1] (.ref a :: st) (n, I, Lm, Rm) r ↔ (a < n ∧ shp a = (0, 3)) ∧ Ev L xs ρ 28 26 [l0, l1] (rfv (Rm a 3) :: st) (n, I, Lm, Rm) r := ev_gtR cm_28 dX3_isGiven_23 rfl rfl
theorem x28_26 : Ev L xs ρ 28 26 [l0, l1] (.ref a :: st) (n, I, Lm, Rm) r ↔ (a < n ∧ shp a = (0, 1)) ∧ Ev L xs ρ 28 29 [l0, l1] (rfv (Rm a 0) :: st) (n, I, Lm, Rm) r := ev_gtR cm_28 dX3_isGiven_26 rfl rfl
theorem x28_29 : Ev L xs ρ 28 29 [some (.ref a), l1] st σ r ↔ Ev L xs ρ 28 30 [some (.ref a), l1] (.ref a :: st) σ r := ev_aload_n cm_28 dX3_isGiven_29 rfl rfl
theorem x28_30 : Ev L xs ρ 28 30 [l0, l1] (.ref a :: st) (n, I, Lm, Rm) r ↔ (a < n ∧ shp a = (0, 3)) ∧ Ev L xs ρ 28 33 [l0, l1] (rfv (Rm a 3) :: st) (n, I, Lm, Rm) r := ev_gtR cm_28 dX3_isGiven_30 rfl rfl
theorem x28_33 : Ev L xs ρ 28 33 [l0, l1] (.ref a :: st) (n, I, Lm, Rm) r ↔ (a < n ∧ shp a = (0, 1)) ∧ Ev L xs ρ 28 36 [l0, l1] (.int (I a 5) :: st) (n, I, Lm, Rm) r := ev_gtI cm_28 dX3_isGiven_33 rfl rfl
theorem x28_36 : Ev L xs ρ 28 36 [l0, some (.int x)] st σ r ↔ Ev L xs ρ 28 37 [l0, some (.int x)] (.int x :: st) σ r := ev_iload_n cm_28 dX3_isGiven_36 rfl rfl
theorem x28_37 : Ev L xs 1 28 37 [l0, l1] (.int y :: .int x :: .ref a :: []) σ r ↔ ∃ v n2 I2 L2 R2, Em L xs 165 [.ref a, .int x, .int y] σ (v, n2, I2, L2, R2) ∧ Ev L xs 1 28 40 [l0, l1] (v.toList ++ []) (n2, I2, L2, R2) r := ev_cS cm_28 [.ref a, .int x, .int y] dX3_isGiven_37 rfl rfl rfl (Nat.le_of_ble_eq_true rfl) (rka_lt rfl (by decide)) (Nat.le_of_ble_eq_true rfl)
theorem x28_40 : Ev L xs ρ 28 40 [l0, l1] st σ r ↔ Ev L xs ρ 28 41 [l0, l1] (.int (-1) :: st) σ r := ev_iconst cm_28 dX3_isGiven_40 (by decide)
theorem x28_41 : Ev L xs ρ 28 41 [l0, l1] (.int y :: .int x :: st) σ r ↔ if x = y then Ev L xs ρ 28 44 [l0, l1] st σ r else Ev L xs ρ 28 66 [l0, l1] st σ r := ev_icne cm_28 dX3_isGiven_41 (by decide)
theorem x28_44 : Ev L xs ρ 28 44 [some (.ref a), l1] st σ r ↔ Ev L xs ρ 28 45 [some (.ref a), l1] (.ref a :: st) σ r := ev_aload_n cm_28 dX3_isGiven_44 rfl rfl
theorem x28_45 : Ev L xs ρ 28 45 [l0, l1] (.ref a :: st) (n, I, Lm, Rm) r ↔ (a < n ∧ shp a = (0, 3)) ∧ Ev L xs ρ 28 48 [l0, l1] (rfv (Rm a 4) :: st) (n, I, Lm, Rm) r := ev_gtR cm_28 dX3_isGiven_45 rfl rfl
theorem x28_48 : Ev L xs ρ 28 48 [l0, l1] (.ref a :: st) (n, I, Lm, Rm) r ↔ (a < n ∧ shp a = (0, 2)) ∧ Ev L xs ρ 28 51 [l0, l1] (rfv (Rm a 0) :: st) (n, I, Lm, Rm) r := ev_gtR cm_28 dX3_isGiven_48 rfl rfl
theorem x28_51 : Ev L xs ρ 28 51 [some (.ref a), l1] st σ r ↔ Ev L xs ρ 28 52 [some (.ref a), l1] (.ref a :: st) σ r := ev_aload_n cm_28 dX3_isGiven_51 rfl rfl
theorem x28_52 : Ev L xs ρ 28 52 [l0, l1] (.ref a :: st) (n, I, Lm, Rm) r ↔ (a < n ∧ shp a = (0, 3)) ∧ Ev L xs ρ 28 55 [l0, l1] (rfv (Rm a 4) :: st) (n, I, Lm, Rm) r := ev_gtR cm_28 dX3_isGiven_52 rfl rfl
theorem x28_55 : Ev L xs ρ 28 55 [l0, l1] (.ref a :: st) (n, I, Lm, Rm) r ↔ (a < n ∧ shp a = (0, 2)) ∧ Ev L xs ρ 28 58 [l0, l1] (.int (I a 8) :: st) (n, I, Lm, Rm) r := ev_gtI cm_28 dX3_isGiven_55 rfl rfl
theorem x28_58 : Ev L xs ρ 28 58 [l0, some (.int x)] st σ r ↔ Ev L xs ρ 28 59 [l0, some (.int x)] (.int x :: st) σ r := ev_iload_n cm_28 dX3_isGiven_58 rfl rfl
theorem x28_59 : Ev L xs 1 28 59 [l0, l1] (.int y :: .int x :: .ref a :: []) σ r ↔ ∃ v n2 I2 L2 R2, Em L xs 165 [.ref a, .int x, .int y] σ (v, n2, I2, L2, R2) ∧ Ev L xs 1 28 62 [l0, l1] (v.toList ++ []) (n2, I2, L2, R2) r := ev_cS cm_28 [.ref a, .int x, .int y] dX3_isGiven_59 rfl rfl rfl (Nat.le_of_ble_eq_true rfl) (rka_lt rfl (by decide)) (Nat.le_of_ble_eq_true rfl)
theorem x28_62 : Ev L xs ρ 28 62 [l0, l1] st σ r ↔ Ev L xs ρ 28 63 [l0, l1] (.int (-1) :: st) σ r := ev_iconst cm_28 dX3_isGiven_62 (by decide)
theorem x28_63 : Ev L xs ρ 28 63 [l0, l1] (.int y :: .int x :: st) σ r ↔ if x = y then Ev L xs ρ 28 70 [l0, l1] st σ r else Ev L xs ρ 28 66 [l0, l1] st σ r := ev_iceq cm_28 dX3_isGiven_63 (by decide)
theorem x28_66 : Ev L xs ρ 28 66 [l0, l1] st σ r ↔ Ev L xs ρ 28 67 [l0, l1] (.int (1) :: st) σ r := ev_iconst cm_28 dX3_isGiven_66 (by decide)
theorem x28_67 : Ev L xs ρ 28 67 [l0, l1] st σ r ↔ Ev L xs ρ 28 71 [l0, l1] st σ r := ev_goto cm_28 dX3_isGiven_67 (by decide)
theorem x28_70 : Ev L xs ρ 28 70 [l0, l1] st σ r ↔ Ev L xs ρ 28 71 [l0, l1] (.int (0) :: st) σ r := ev_iconst cm_28 dX3_isGiven_70 (by decide)
theorem x28_71 : Ev L xs ρ 28 71 [l0, l1] [.int x] σ r ↔ (x = 0 ∨ x = 1) ∧ r = (some (.int x), σ) := ev_retz cm_28 dX3_isGiven_71 rfl
theorem cm_29 : mcd 29 = cX3_readKnown := rfl
theorem em_29 : Em L xs 29 [.ref a, .ref b, .int x] σ r ↔ Ev L xs 3 29 0 [some (.ref a), some (.ref b), some (.int x), none] [] σ r := Iff.rfl
theorem x29_0 : Ev L xs ρ 29 0 [l0, some (.ref a), l2, l3] st σ r ↔ Ev L xs ρ 29 1 [l0, some (.ref a), l2, l3] (.ref a :: st) σ r := ev_aload_n cm_29 dX3_readKnown_0 rfl rfl
theorem x29_1 : Ev L xs ρ 29 1 [l0, l1, some (.int x), l3] st σ r ↔ Ev L xs ρ 29 2 [l0, l1, some (.int x), l3] (.int x :: st) σ r := ev_iload_n cm_29 dX3_readKnown_1 rfl rfl
theorem x29_2 : Ev L xs ρ 29 2 [some (.ref a), l1, l2, l3] st σ r ↔ Ev L xs ρ 29 3 [some (.ref a), l1, l2, l3] (.ref a :: st) σ r := ev_aload_n cm_29 dX3_readKnown_2 rfl rfl
theorem x29_3 : Ev L xs ρ 29 3 [l0, l1, l2, l3] (.ref a :: st) (n, I, Lm, Rm) r ↔ (a < n ∧ shp a = (0, 3)) ∧ Ev L xs ρ 29 6 [l0, l1, l2, l3] (rfv (Rm a 0) :: st) (n, I, Lm, Rm) r := ev_gtR cm_29 dX3_readKnown_3 rfl rfl
theorem x29_6 : Ev L xs ρ 29 6 [l0, l1, l2, l3] (.ref a :: st) (n, I, Lm, Rm) r ↔ (a < n ∧ shp a = (0, 7)) ∧ Ev L xs ρ 29 9 [l0, l1, l2, l3] (rfv (Rm a 4) :: st) (n, I, Lm, Rm) r := ev_gtR cm_29 dX3_readKnown_6 rfl rfl
theorem x29_9 : Ev L xs ρ 29 9 [some (.ref a), l1, l2, l3] st σ r ↔ Ev L xs ρ 29 10 [some (.ref a), l1, l2, l3] (.ref a :: st) σ r := ev_aload_n cm_29 dX3_readKnown_9 rfl rfl
theorem x29_10 : Ev L xs ρ 29 10 [l0, l1, l2, l3] (.ref a :: st) (n, I, Lm, Rm) r ↔ (a < n ∧ shp a = (0, 3)) ∧ Ev L xs ρ 29 13 [l0, l1, l2, l3] (.int (I a 6) :: st) (n, I, Lm, Rm) r := ev_gtI cm_29 dX3_readKnown_10 rfl rfl
theorem x29_13 : Ev L xs 3 29 13 [l0, l1, l2, l3] (.int y :: .ref b :: .int x :: .ref a :: []) σ r ↔ ∃ v n2 I2 L2 R2, Em L xs 160 [.ref b, .int y] σ (v, n2, I2, L2, R2) ∧ Ev L xs 3 29 16 [l0, l1, l2, l3] (v.toList ++ (.int x :: .ref a :: [])) (n2, I2, L2, R2) r := ev_cS cm_29 [.ref b, .int y] dX3_readKnown_13 rfl rfl rfl (Nat.le_of_ble_eq_true rfl) (rka_lt rfl (by decide)) (Nat.le_of_ble_eq_true rfl)
theorem x29_16 : Ev L xs 3 29 16 [l0, l1, l2, l3] (.int y :: .int x :: .ref a :: []) σ r ↔ ∃ v n2 I2 L2 R2, Em L xs 165 [.ref a, .int x, .int y] σ (v, n2, I2, L2, R2) ∧ Ev L xs 3 29 19 [l0, l1, l2, l3] (v.toList ++ []) (n2, I2, L2, R2) r := ev_cS cm_29 [.ref a, .int x, .int y] dX3_readKnown_16 rfl rfl rfl (Nat.le_of_ble_eq_true rfl) (rka_lt rfl (by decide)) (Nat.le_of_ble_eq_true rfl)
theorem x29_19 : Ev L xs ρ 29 19 [l0, l1, l2, l3] (.int x :: st) σ r ↔ Ev L xs ρ 29 20 [l0, l1, l2, some (.int x)] st σ r := ev_istore_n cm_29 dX3_readKnown_19 rfl (Nat.le_of_ble_eq_true rfl)
theorem x29_20 : Ev L xs ρ 29 20 [some (.ref a), l1, l2, l3] st σ r ↔ Ev L xs ρ 29 21 [some (.ref a), l1, l2, l3] (.ref a :: st) σ r := ev_aload_n cm_29 dX3_readKnown_20 rfl rfl
theorem x29_21 : Ev L xs 3 29 21 [l0, l1, l2, l3] (.ref a :: []) (n, I, Lm, Rm) r ↔ (a < n ∧ shp a = (0, 3)) ∧ ∃ v n2 I2 L2 R2, Em L xs 26 [.ref a] (n, I, Lm, Rm) (v, n2, I2, L2, R2) ∧ Ev L xs 3 29 24 [l0, l1, l2, l3] (v.toList ++ []) (n2, I2, L2, R2) r := ev_cV cm_29 [] dX3_readKnown_21 rfl rfl rfl rfl (Nat.le_of_ble_eq_true rfl) (rka_lt rfl (by decide)) (Nat.le_of_ble_eq_true rfl)
theorem x29_24 : Ev L xs ρ 29 24 [l0, l1, l2, l3] (.int x :: st) σ r ↔ if x = 0 then Ev L xs ρ 29 38 [l0, l1, l2, l3] st σ r else Ev L xs ρ 29 27 [l0, l1, l2, l3] st σ r := ev_ifeq cm_29 dX3_readKnown_24 (by decide)
theorem x29_27 : Ev L xs ρ 29 27 [l0, l1, l2, some (.int x)] st σ r ↔ Ev L xs ρ 29 28 [l0, l1, l2, some (.int x)] (.int x :: st) σ r := ev_iload_n cm_29 dX3_readKnown_27 rfl rfl
theorem x29_28 : Ev L xs ρ 29 28 [l0, l1, l2, l3] st σ r ↔ Ev L xs ρ 29 29 [l0, l1, l2, l3] (.int (-1) :: st) σ r := ev_iconst cm_29 dX3_readKnown_28 (by decide)
theorem x29_29 : Ev L xs ρ 29 29 [l0, l1, l2, l3] (.int y :: .int x :: st) σ r ↔ if x = y then Ev L xs ρ 29 32 [l0, l1, l2, l3] st σ r else Ev L xs ρ 29 38 [l0, l1, l2, l3] st σ r := ev_icne cm_29 dX3_readKnown_29 (by decide)
theorem x29_32 : Ev L xs ρ 29 32 [some (.ref a), l1, l2, l3] st σ r ↔ Ev L xs ρ 29 33 [some (.ref a), l1, l2, l3] (.ref a :: st) σ r := ev_aload_n cm_29 dX3_readKnown_32 rfl rfl
theorem x29_33 : Ev L xs ρ 29 33 [l0, l1, l2, l3] st σ r ↔ Ev L xs ρ 29 34 [l0, l1, l2, l3] (.int (3) :: st) σ r := ev_iconst cm_29 dX3_readKnown_33 (by decide)
theorem x29_34 : Ev L xs ρ 29 34 [l0, l1, l2, l3] st σ r ↔ Ev L xs ρ 29 35 [l0, l1, l2, l3] (.int (0) :: st) σ r := ev_iconst cm_29 dX3_readKnown_34 (by decide)
theorem x29_35 : Ev L xs 3 29 35 [l0, l1, l2, l3] (.int y :: .int x :: .ref a :: []) (n, I, Lm, Rm) r ↔ (a < n ∧ shp a = (0, 3)) ∧ ∃ v n2 I2 L2 R2, Em L xs 21 [.ref a, .int x, .int y] (n, I, Lm, Rm) (v, n2, I2, L2, R2) ∧ Ev L xs 3 29 38 [l0, l1, l2, l3] (v.toList ++ []) (n2, I2, L2, R2) r := ev_cV cm_29 [.int x, .int y] dX3_readKnown_35 rfl rfl rfl rfl (Nat.le_of_ble_eq_true rfl) (rka_lt rfl (by decide)) (Nat.le_of_ble_eq_true rfl)
theorem x29_38 : Ev L xs ρ 29 38 [some (.ref a), l1, l2, l3] st σ r ↔ Ev L xs ρ 29 39 [some (.ref a), l1, l2, l3] (.ref a :: st) σ r := ev_aload_n cm_29 dX3_readKnown_38 rfl rfl
theorem x29_39 : Ev L xs ρ 29 39 [l0, l1, l2, l3] (.ref a :: st) σ r ↔ Ev L xs ρ 29 40 [l0, l1, l2, l3] (.ref a :: .ref a :: st) σ r := ev_nx (ev_ex cm_29 dX3_readKnown_39 rfl rfl)
theorem x29_40 : Ev L xs ρ 29 40 [l0, l1, l2, l3] (.ref a :: st) (n, I, Lm, Rm) r ↔ (a < n ∧ shp a = (0, 3)) ∧ Ev L xs ρ 29 43 [l0, l1, l2, l3] (.int (I a 6) :: st) (n, I, Lm, Rm) r := ev_gtI cm_29 dX3_readKnown_40 rfl rfl
theorem x29_43 : Ev L xs ρ 29 43 [l0, l1, l2, l3] st σ r ↔ Ev L xs ρ 29 44 [l0, l1, l2, l3] (.int (1) :: st) σ r := ev_iconst cm_29 dX3_readKnown_43 (by decide)
theorem x29_44 : Ev L xs ρ 29 44 [l0, l1, l2, l3] (.int y :: .int x :: st) σ r ↔ Ev L xs ρ 29 45 [l0, l1, l2, l3] (.int (x + y) :: st) σ r := ev_nx (ev_ex cm_29 dX3_readKnown_44 rfl rfl)
theorem x29_45 : Ev L xs ρ 29 45 [l0, l1, l2, l3] (.int x :: .ref a :: st) (n, I, Lm, Rm) r ↔ (a < n ∧ shp a = (0, 3)) ∧ Ev L xs ρ 29 48 [l0, l1, l2, l3] st (n, up2 I a 6 x, Lm, Rm) r := ev_ptI cm_29 dX3_readKnown_45 rfl rfl (Or.inl rfl)
theorem x29_48 : Ev L xs ρ 29 48 [l0, l1, l2, some (.int x)] st σ r ↔ Ev L xs ρ 29 49 [l0, l1, l2, some (.int x)] (.int x :: st) σ r := ev_iload_n cm_29 dX3_readKnown_48 rfl rfl
theorem x29_49 : Ev L xs ρ 29 49 [l0, l1, l2, l3] [.int x] σ r ↔ r = (some (.int x), σ) := ev_reti cm_29 dX3_readKnown_49 rfl
theorem cm_30 : mcd 30 = cX3_readUnpaired := rfl
theorem em_30 : Em L xs 30 [.ref a, .int x] σ r ↔ Ev L xs 3 30 0 [some (.ref a), some (.int x), none, none] [] σ r := Iff.rfl
theorem x30_0 : Ev L xs ρ 30 0 [some (.ref a), l1, l2, l3] st σ r ↔ Ev L xs ρ 30 1 [some (.ref a), l1, l2, l3] (.ref a :: st) σ r := ev_aload_n cm_30 dX3_readUnpaired_0 rfl rfl
theorem x30_1 : Ev L xs ρ 30 1 [l0, l1, l2, l3] (.ref a :: st) (n, I, Lm, Rm) r ↔ (a < n ∧ shp a = (0, 3)) ∧ Ev L xs ρ 30 4 [l0, l1, l2, l3] (rfv (Rm a 4) :: st) (n, I, Lm, Rm) r := ev_gtR cm_30 dX3_readUnpaired_1 rfl rfl
theorem x30_4 : Ev L xs ρ 30 4 [l0, l1, l2, l3] (.ref a :: st) (n, I, Lm, Rm) r ↔ (a < n ∧ shp a = (0, 2)) ∧ Ev L xs ρ 30 7 [l0, l1, l2, l3] (rfv (Rm a 0) :: st) (n, I, Lm, Rm) r := ev_gtR cm_30 dX3_readUnpaired_4 rfl rfl
theorem x30_7 : Ev L xs ρ 30 7 [some (.ref a), l1, l2, l3] st σ r ↔ Ev L xs ρ 30 8 [some (.ref a), l1, l2, l3] (.ref a :: st) σ r := ev_aload_n cm_30 dX3_readUnpaired_7 rfl rfl
theorem x30_8 : Ev L xs ρ 30 8 [l0, l1, l2, l3] (.ref a :: st) (n, I, Lm, Rm) r ↔ (a < n ∧ shp a = (0, 3)) ∧ Ev L xs ρ 30 11 [l0, l1, l2, l3] (rfv (Rm a 4) :: st) (n, I, Lm, Rm) r := ev_gtR cm_30 dX3_readUnpaired_8 rfl rfl
theorem x30_11 : Ev L xs ρ 30 11 [l0, l1, l2, l3] (.ref a :: st) (n, I, Lm, Rm) r ↔ (a < n ∧ shp a = (0, 2)) ∧ Ev L xs ρ 30 14 [l0, l1, l2, l3] (.int (I a 8) :: st) (n, I, Lm, Rm) r := ev_gtI cm_30 dX3_readUnpaired_11 rfl rfl
theorem x30_14 : Ev L xs ρ 30 14 [some (.ref a), l1, l2, l3] st σ r ↔ Ev L xs ρ 30 15 [some (.ref a), l1, l2, l3] (.ref a :: st) σ r := ev_aload_n cm_30 dX3_readUnpaired_14 rfl rfl
theorem x30_15 : Ev L xs ρ 30 15 [l0, l1, l2, l3] (.ref a :: st) (n, I, Lm, Rm) r ↔ (a < n ∧ shp a = (0, 3)) ∧ Ev L xs ρ 30 18 [l0, l1, l2, l3] (rfv (Rm a 0) :: st) (n, I, Lm, Rm) r := ev_gtR cm_30 dX3_readUnpaired_15 rfl rfl
theorem x30_18 : Ev L xs ρ 30 18 [l0, l1, l2, l3] (.ref a :: st) (n, I, Lm, Rm) r ↔ (a < n ∧ shp a = (0, 7)) ∧ Ev L xs ρ 30 21 [l0, l1, l2, l3] (rfv (Rm a 4) :: st) (n, I, Lm, Rm) r := ev_gtR cm_30 dX3_readUnpaired_18 rfl rfl
theorem x30_21 : Ev L xs ρ 30 21 [some (.ref a), l1, l2, l3] st σ r ↔ Ev L xs ρ 30 22 [some (.ref a), l1, l2, l3] (.ref a :: st) σ r := ev_aload_n cm_30 dX3_readUnpaired_21 rfl rfl
theorem x30_22 : Ev L xs ρ 30 22 [l0, l1, l2, l3] (.ref a :: st) (n, I, Lm, Rm) r ↔ (a < n ∧ shp a = (0, 3)) ∧ Ev L xs ρ 30 25 [l0, l1, l2, l3] (.int (I a 6) :: st) (n, I, Lm, Rm) r := ev_gtI cm_30 dX3_readUnpaired_22 rfl rfl
theorem x30_25 : Ev L xs 3 30 25 [l0, l1, l2, l3] (.int y :: .ref b :: .int x :: .ref a :: []) σ r ↔ ∃ v n2 I2 L2 R2, Em L xs 160 [.ref b, .int y] σ (v, n2, I2, L2, R2) ∧ Ev L xs 3 30 28 [l0, l1, l2, l3] (v.toList ++ (.int x :: .ref a :: [])) (n2, I2, L2, R2) r := ev_cS cm_30 [.ref b, .int y] dX3_readUnpaired_25 rfl rfl rfl (Nat.le_of_ble_eq_true rfl) (rka_lt rfl (by decide)) (Nat.le_of_ble_eq_true rfl)
theorem x30_28 : Ev L xs 3 30 28 [l0, l1, l2, l3] (.int y :: .int x :: .ref a :: []) σ r ↔ ∃ v n2 I2 L2 R2, Em L xs 165 [.ref a, .int x, .int y] σ (v, n2, I2, L2, R2) ∧ Ev L xs 3 30 31 [l0, l1, l2, l3] (v.toList ++ []) (n2, I2, L2, R2) r := ev_cS cm_30 [.ref a, .int x, .int y] dX3_readUnpaired_28 rfl rfl rfl (Nat.le_of_ble_eq_true rfl) (rka_lt rfl (by decide)) (Nat.le_of_ble_eq_true rfl)
theorem x30_31 : Ev L xs ρ 30 31 [l0, l1, l2, l3] (.int x :: st) σ r ↔ Ev L xs ρ 30 32 [l0, l1, some (.int x), l3] st σ r := ev_istore_n cm_30 dX3_readUnpaired_31 rfl (Nat.le_of_ble_eq_true rfl)
theorem x30_32 : Ev L xs ρ 30 32 [l0, l1, some (.int x), l3] st σ r ↔ Ev L xs ρ 30 33 [l0, l1, some (.int x), l3] (.int x :: st) σ r := ev_iload_n cm_30 dX3_readUnpaired_32 rfl rfl
theorem x30_33 : Ev L xs ρ 30 33 [l0, l1, l2, l3] st σ r ↔ Ev L xs ρ 30 34 [l0, l1, l2, l3] (.int (-1) :: st) σ r := ev_iconst cm_30 dX3_readUnpaired_33 (by decide)
theorem x30_34 : Ev L xs ρ 30 34 [l0, l1, l2, l3] (.int y :: .int x :: st) σ r ↔ if x = y then Ev L xs ρ 30 61 [l0, l1, l2, l3] st σ r else Ev L xs ρ 30 37 [l0, l1, l2, l3] st σ r := ev_iceq cm_30 dX3_readUnpaired_34 (by decide)
theorem x30_37 : Ev L xs ρ 30 37 [l0, l1, some (.int x), l3] st σ r ↔ Ev L xs ρ 30 38 [l0, l1, some (.int x), l3] (.int x :: st) σ r := ev_iload_n cm_30 dX3_readUnpaired_37 rfl rfl
theorem x30_38 : Ev L xs ρ 30 38 [l0, some (.int x), l2, l3] st σ r ↔ Ev L xs ρ 30 39 [l0, some (.int x), l2, l3] (.int x :: st) σ r := ev_iload_n cm_30 dX3_readUnpaired_38 rfl rfl
theorem x30_39 : Ev L xs ρ 30 39 [l0, l1, l2, l3] (.int y :: .int x :: st) σ r ↔ if x = y then Ev L xs ρ 30 61 [l0, l1, l2, l3] st σ r else Ev L xs ρ 30 42 [l0, l1, l2, l3] st σ r := ev_iceq cm_30 dX3_readUnpaired_39 (by decide)
theorem x30_42 : Ev L xs ρ 30 42 [some (.ref a), l1, l2, l3] st σ r ↔ Ev L xs ρ 30 43 [some (.ref a), l1, l2, l3] (.ref a :: st) σ r := ev_aload_n cm_30 dX3_readUnpaired_42 rfl rfl
theorem x30_43 : Ev L xs ρ 30 43 [l0, l1, l2, l3] (.ref a :: st) (n, I, Lm, Rm) r ↔ (a < n ∧ shp a = (0, 3)) ∧ Ev L xs ρ 30 46 [l0, l1, l2, l3] (rfv (Rm a 4) :: st) (n, I, Lm, Rm) r := ev_gtR cm_30 dX3_readUnpaired_43 rfl rfl
theorem x30_46 : Ev L xs ρ 30 46 [l0, l1, l2, l3] (.ref a :: st) (n, I, Lm, Rm) r ↔ (a < n ∧ shp a = (0, 2)) ∧ Ev L xs ρ 30 49 [l0, l1, l2, l3] (rfv (Rm a 5) :: st) (n, I, Lm, Rm) r := ev_gtR cm_30 dX3_readUnpaired_46 rfl rfl
theorem x30_49 : Ev L xs ρ 30 49 [l0, l1, some (.int x), l3] st σ r ↔ Ev L xs ρ 30 50 [l0, l1, some (.int x), l3] (.int x :: st) σ r := ev_iload_n cm_30 dX3_readUnpaired_49 rfl rfl
theorem x30_50 : Ev L xs 3 30 50 [l0, l1, l2, l3] (.int x :: .ref a :: []) σ r ↔ ∃ v n2 I2 L2 R2, Em L xs 160 [.ref a, .int x] σ (v, n2, I2, L2, R2) ∧ Ev L xs 3 30 53 [l0, l1, l2, l3] (v.toList ++ []) (n2, I2, L2, R2) r := ev_cS cm_30 [.ref a, .int x] dX3_readUnpaired_50 rfl rfl rfl (Nat.le_of_ble_eq_true rfl) (rka_lt rfl (by decide)) (Nat.le_of_ble_eq_true rfl)
theorem x30_53 : Ev L xs ρ 30 53 [l0, l1, l2, l3] st σ r ↔ Ev L xs ρ 30 54 [l0, l1, l2, l3] (.int (-1) :: st) σ r := ev_iconst cm_30 dX3_readUnpaired_53 (by decide)
theorem x30_54 : Ev L xs ρ 30 54 [l0, l1, l2, l3] (.int y :: .int x :: st) σ r ↔ if x = y then Ev L xs ρ 30 57 [l0, l1, l2, l3] st σ r else Ev L xs ρ 30 61 [l0, l1, l2, l3] st σ r := ev_icne cm_30 dX3_readUnpaired_54 (by decide)
theorem x30_57 : Ev L xs ρ 30 57 [l0, l1, l2, l3] st σ r ↔ Ev L xs ρ 30 58 [l0, l1, l2, l3] (.int (1) :: st) σ r := ev_iconst cm_30 dX3_readUnpaired_57 (by decide)
theorem x30_58 : Ev L xs ρ 30 58 [l0, l1, l2, l3] st σ r ↔ Ev L xs ρ 30 62 [l0, l1, l2, l3] st σ r := ev_goto cm_30 dX3_readUnpaired_58 (by decide)
theorem x30_61 : Ev L xs ρ 30 61 [l0, l1, l2, l3] st σ r ↔ Ev L xs ρ 30 62 [l0, l1, l2, l3] (.int (0) :: st) σ r := ev_iconst cm_30 dX3_readUnpaired_61 (by decide)
theorem x30_62 : Ev L xs ρ 30 62 [l0, l1, l2, l3] (.int x :: st) σ r ↔ Ev L xs ρ 30 63 [l0, l1, l2, some (.int x)] st σ r := ev_istore_n cm_30 dX3_readUnpaired_62 rfl (Nat.le_of_ble_eq_true rfl)
theorem x30_63 : Ev L xs ρ 30 63 [some (.ref a), l1, l2, l3] st σ r ↔ Ev L xs ρ 30 64 [some (.ref a), l1, l2, l3] (.ref a :: st) σ r := ev_aload_n cm_30 dX3_readUnpaired_63 rfl rfl
theorem x30_64 : Ev L xs 3 30 64 [l0, l1, l2, l3] (.ref a :: []) (n, I, Lm, Rm) r ↔ (a < n ∧ shp a = (0, 3)) ∧ ∃ v n2 I2 L2 R2, Em L xs 26 [.ref a] (n, I, Lm, Rm) (v, n2, I2, L2, R2) ∧ Ev L xs 3 30 67 [l0, l1, l2, l3] (v.toList ++ []) (n2, I2, L2, R2) r := ev_cV cm_30 [] dX3_readUnpaired_64 rfl rfl rfl rfl (Nat.le_of_ble_eq_true rfl) (rka_lt rfl (by decide)) (Nat.le_of_ble_eq_true rfl)
theorem x30_67 : Ev L xs ρ 30 67 [l0, l1, l2, l3] (.int x :: st) σ r ↔ if x = 0 then Ev L xs ρ 30 80 [l0, l1, l2, l3] st σ r else Ev L xs ρ 30 70 [l0, l1, l2, l3] st σ r := ev_ifeq cm_30 dX3_readUnpaired_67 (by decide)
theorem x30_70 : Ev L xs ρ 30 70 [l0, l1, l2, some (.int x)] st σ r ↔ Ev L xs ρ 30 71 [l0, l1, l2, some (.int x)] (.int x :: st) σ r := ev_iload_n cm_30 dX3_readUnpaired_70 rfl rfl
theorem x30_71 : Ev L xs ρ 30 71 [l0, l1, l2, l3] (.int x :: st) σ r ↔ if x = 0 then Ev L xs ρ 30 74 [l0, l1, l2, l3] st σ r else Ev L xs ρ 30 80 [l0, l1, l2, l3] st σ r := ev_ifne cm_30 dX3_readUnpaired_71 (by decide)
theorem x30_74 : Ev L xs ρ 30 74 [some (.ref a), l1, l2, l3] st σ r ↔ Ev L xs ρ 30 75 [some (.ref a), l1, l2, l3] (.ref a :: st) σ r := ev_aload_n cm_30 dX3_readUnpaired_74 rfl rfl
theorem x30_75 : Ev L xs ρ 30 75 [l0, l1, l2, l3] st σ r ↔ Ev L xs ρ 30 76 [l0, l1, l2, l3] (.int (3) :: st) σ r := ev_iconst cm_30 dX3_readUnpaired_75 (by decide)
theorem x30_76 : Ev L xs ρ 30 76 [l0, l1, l2, l3] st σ r ↔ Ev L xs ρ 30 77 [l0, l1, l2, l3] (.int (0) :: st) σ r := ev_iconst cm_30 dX3_readUnpaired_76 (by decide)
theorem x30_77 : Ev L xs 3 30 77 [l0, l1, l2, l3] (.int y :: .int x :: .ref a :: []) (n, I, Lm, Rm) r ↔ (a < n ∧ shp a = (0, 3)) ∧ ∃ v n2 I2 L2 R2, Em L xs 21 [.ref a, .int x, .int y] (n, I, Lm, Rm) (v, n2, I2, L2, R2) ∧ Ev L xs 3 30 80 [l0, l1, l2, l3] (v.toList ++ []) (n2, I2, L2, R2) r := ev_cV cm_30 [.int x, .int y] dX3_readUnpaired_77 rfl rfl rfl rfl (Nat.le_of_ble_eq_true rfl) (rka_lt rfl (by decide)) (Nat.le_of_ble_eq_true rfl)
theorem x30_80 : Ev L xs ρ 30 80 [some (.ref a), l1, l2, l3] st σ r ↔ Ev L xs ρ 30 81 [some (.ref a), l1, l2, l3] (.ref a :: st) σ r := ev_aload_n cm_30 dX3_readUnpaired_80 rfl rfl
theorem x30_81 : Ev L xs ρ 30 81 [l0, l1, l2, l3] (.ref a :: st) σ r ↔ Ev L xs ρ 30 82 [l0, l1, l2, l3] (.ref a :: .ref a :: st) σ r := ev_nx (ev_ex cm_30 dX3_readUnpaired_81 rfl rfl)
theorem x30_82 : Ev L xs ρ 30 82 [l0, l1, l2, l3] (.ref a :: st) (n, I, Lm, Rm) r ↔ (a < n ∧ shp a = (0, 3)) ∧ Ev L xs ρ 30 85 [l0, l1, l2, l3] (.int (I a 6) :: st) (n, I, Lm, Rm) r := ev_gtI cm_30 dX3_readUnpaired_82 rfl rfl
theorem x30_85 : Ev L xs ρ 30 85 [l0, l1, l2, l3] st σ r ↔ Ev L xs ρ 30 86 [l0, l1, l2, l3] (.int (1) :: st) σ r := ev_iconst cm_30 dX3_readUnpaired_85 (by decide)
theorem x30_86 : Ev L xs ρ 30 86 [l0, l1, l2, l3] (.int y :: .int x :: st) σ r ↔ Ev L xs ρ 30 87 [l0, l1, l2, l3] (.int (x + y) :: st) σ r := ev_nx (ev_ex cm_30 dX3_readUnpaired_86 rfl rfl)
theorem x30_87 : Ev L xs ρ 30 87 [l0, l1, l2, l3] (.int x :: .ref a :: st) (n, I, Lm, Rm) r ↔ (a < n ∧ shp a = (0, 3)) ∧ Ev L xs ρ 30 90 [l0, l1, l2, l3] st (n, up2 I a 6 x, Lm, Rm) r := ev_ptI cm_30 dX3_readUnpaired_87 rfl rfl (Or.inl rfl)
theorem x30_90 : Ev L xs ρ 30 90 [l0, l1, some (.int x), l3] st σ r ↔ Ev L xs ρ 30 91 [l0, l1, some (.int x), l3] (.int x :: st) σ r := ev_iload_n cm_30 dX3_readUnpaired_90 rfl rfl
theorem x30_91 : Ev L xs ρ 30 91 [l0, l1, l2, l3] [.int x] σ r ↔ r = (some (.int x), σ) := ev_reti cm_30 dX3_readUnpaired_91 rfl
theorem cm_31 : mcd 31 = cX3_readStatement := rfl
theorem em_31 : Em L xs 31 [.ref a] σ r ↔ Ev L xs 78 31 0 [some (.ref a), none] [] σ r := Iff.rfl
theorem x31_0 : Ev L xs ρ 31 0 [some (.ref a), l1] st σ r ↔ Ev L xs ρ 31 1 [some (.ref a), l1] (.ref a :: st) σ r := ev_aload_n cm_31 dX3_readStatement_0 rfl rfl
theorem x31_1 : Ev L xs 78 31 1 [l0, l1] (.ref a :: []) (n, I, Lm, Rm) r ↔ (a < n ∧ shp a = (0, 3)) ∧ ∃ v n2 I2 L2 R2, Em L xs 20 [.ref a] (n, I, Lm, Rm) (v, n2, I2, L2, R2) ∧ Ev L xs 78 31 4 [l0, l1] (v.toList ++ []) (n2, I2, L2, R2) r := ev_cV cm_31 [] dX3_readStatement_1 rfl rfl rfl rfl (Nat.le_of_ble_eq_true rfl) (rka_lt rfl (by decide)) (Nat.le_of_ble_eq_true rfl)
theorem x31_4 : Ev L xs ρ 31 4 [l0, l1] (.int x :: st) σ r ↔ Ev L xs ρ 31 5 [l0, some (.int x)] st σ r := ev_istore_n cm_31 dX3_readStatement_4 rfl (Nat.le_of_ble_eq_true rfl)
theorem x31_5 : Ev L xs ρ 31 5 [some (.ref a), l1] st σ r ↔ Ev L xs ρ 31 6 [some (.ref a), l1] (.ref a :: st) σ r := ev_aload_n cm_31 dX3_readStatement_5 rfl rfl
theorem x31_6 : Ev L xs ρ 31 6 [l0, l1] (.ref a :: st) (n, I, Lm, Rm) r ↔ (a < n ∧ shp a = (0, 3)) ∧ Ev L xs ρ 31 9 [l0, l1] (.int (I a 7) :: st) (n, I, Lm, Rm) r := ev_gtI cm_31 dX3_readStatement_6 rfl rfl
theorem x31_9 : Ev L xs ρ 31 9 [l0, l1] st σ r ↔ Ev L xs ρ 31 11 [l0, l1] (.int (100) :: st) σ r := ev_bipush cm_31 dX3_readStatement_9 (by decide)
theorem x31_11 : Ev L xs ρ 31 11 [l0, l1] (.int y :: .int x :: st) σ r ↔ if y ≤ x then Ev L xs ρ 31 22 [l0, l1] st σ r else Ev L xs ρ 31 14 [l0, l1] st σ r := ev_icge cm_31 dX3_readStatement_11 (by decide)
theorem x31_14 : Ev L xs ρ 31 14 [some (.ref a), l1] st σ r ↔ Ev L xs ρ 31 15 [some (.ref a), l1] (.ref a :: st) σ r := ev_aload_n cm_31 dX3_readStatement_14 rfl rfl
theorem x31_15 : Ev L xs ρ 31 15 [l0, some (.int x)] st σ r ↔ Ev L xs ρ 31 16 [l0, some (.int x)] (.int x :: st) σ r := ev_iload_n cm_31 dX3_readStatement_15 rfl rfl
theorem x31_16 : Ev L xs 78 31 16 [l0, l1] (.int x :: .ref a :: []) (n, I, Lm, Rm) r ↔ (a < n ∧ shp a = (0, 3)) ∧ ∃ v n2 I2 L2 R2, Em L xs 32 [.ref a, .int x] (n, I, Lm, Rm) (v, n2, I2, L2, R2) ∧ Ev L xs 78 31 19 [l0, l1] (v.toList ++ []) (n2, I2, L2, R2) r := ev_cV cm_31 [.int x] dX3_readStatement_16 rfl rfl rfl rfl (Nat.le_of_ble_eq_true rfl) (rka_lt rfl (by decide)) (Nat.le_of_ble_eq_true rfl)
theorem x31_19 : Ev L xs ρ 31 19 [l0, l1] (.int x :: st) σ r ↔ if x = 0 then Ev L xs ρ 31 31 [l0, l1] st σ r else Ev L xs ρ 31 22 [l0, l1] st σ r := ev_ifeq cm_31 dX3_readStatement_19 (by decide)
theorem x31_22 : Ev L xs ρ 31 22 [some (.ref a), l1] st σ r ↔ Ev L xs ρ 31 23 [some (.ref a), l1] (.ref a :: st) σ r := ev_aload_n cm_31 dX3_readStatement_22 rfl rfl
theorem x31_23 : Ev L xs ρ 31 23 [l0, l1] st σ r ↔ Ev L xs ρ 31 24 [l0, l1] (.int (5) :: st) σ r := ev_iconst cm_31 dX3_readStatement_23 (by decide)
theorem x31_24 : Ev L xs ρ 31 24 [l0, l1] st σ r ↔ Ev L xs ρ 31 25 [l0, l1] (.int (0) :: st) σ r := ev_iconst cm_31 dX3_readStatement_24 (by decide)
theorem x31_25 : Ev L xs 78 31 25 [l0, l1] (.int y :: .int x :: .ref a :: []) (n, I, Lm, Rm) r ↔ (a < n ∧ shp a = (0, 3)) ∧ ∃ v n2 I2 L2 R2, Em L xs 21 [.ref a, .int x, .int y] (n, I, Lm, Rm) (v, n2, I2, L2, R2) ∧ Ev L xs 78 31 28 [l0, l1] (v.toList ++ []) (n2, I2, L2, R2) r := ev_cV cm_31 [.int x, .int y] dX3_readStatement_25 rfl rfl rfl rfl (Nat.le_of_ble_eq_true rfl) (rka_lt rfl (by decide)) (Nat.le_of_ble_eq_true rfl)
theorem x31_28 : Ev L xs ρ 31 28 [l0, l1] st σ r ↔ Ev L xs ρ 31 44 [l0, l1] st σ r := ev_goto cm_31 dX3_readStatement_28 (by decide)
theorem x31_31 : Ev L xs ρ 31 31 [l0, some (.int x)] st σ r ↔ Ev L xs ρ 31 32 [l0, some (.int x)] (.int x :: st) σ r := ev_iload_n cm_31 dX3_readStatement_31 rfl rfl
theorem x31_32 : Ev L xs 78 31 32 [l0, l1] (.int x :: []) σ r ↔ ∃ v n2 I2 L2 R2, Em L xs 33 [.int x] σ (v, n2, I2, L2, R2) ∧ Ev L xs 78 31 35 [l0, l1] (v.toList ++ []) (n2, I2, L2, R2) r := ev_cS cm_31 [.int x] dX3_readStatement_32 rfl rfl rfl (Nat.le_of_ble_eq_true rfl) (rka_lt rfl (by decide)) (Nat.le_of_ble_eq_true rfl)
theorem x31_35 : Ev L xs ρ 31 35 [l0, l1] (.int x :: st) σ r ↔ if x = 0 then Ev L xs ρ 31 38 [l0, l1] st σ r else Ev L xs ρ 31 44 [l0, l1] st σ r := ev_ifne cm_31 dX3_readStatement_35 (by decide)
theorem x31_38 : Ev L xs ρ 31 38 [some (.ref a), l1] st σ r ↔ Ev L xs ρ 31 39 [some (.ref a), l1] (.ref a :: st) σ r := ev_aload_n cm_31 dX3_readStatement_38 rfl rfl
theorem x31_39 : Ev L xs ρ 31 39 [l0, l1] st σ r ↔ Ev L xs ρ 31 40 [l0, l1] (.int (1) :: st) σ r := ev_iconst cm_31 dX3_readStatement_39 (by decide)
theorem x31_40 : Ev L xs ρ 31 40 [l0, l1] st σ r ↔ Ev L xs ρ 31 41 [l0, l1] (.int (0) :: st) σ r := ev_iconst cm_31 dX3_readStatement_40 (by decide)
theorem x31_41 : Ev L xs 78 31 41 [l0, l1] (.int y :: .int x :: .ref a :: []) (n, I, Lm, Rm) r ↔ (a < n ∧ shp a = (0, 3)) ∧ ∃ v n2 I2 L2 R2, Em L xs 21 [.ref a, .int x, .int y] (n, I, Lm, Rm) (v, n2, I2, L2, R2) ∧ Ev L xs 78 31 44 [l0, l1] (v.toList ++ []) (n2, I2, L2, R2) r := ev_cV cm_31 [.int x, .int y] dX3_readStatement_41 rfl rfl rfl rfl (Nat.le_of_ble_eq_true rfl) (rka_lt rfl (by decide)) (Nat.le_of_ble_eq_true rfl)
theorem x31_44 : Ev L xs ρ 31 44 [some (.ref a), l1] st σ r ↔ Ev L xs ρ 31 45 [some (.ref a), l1] (.ref a :: st) σ r := ev_aload_n cm_31 dX3_readStatement_44 rfl rfl
theorem x31_45 : Ev L xs 78 31 45 [l0, l1] (.ref a :: []) (n, I, Lm, Rm) r ↔ (a < n ∧ shp a = (0, 3)) ∧ ∃ v n2 I2 L2 R2, Em L xs 18 [.ref a] (n, I, Lm, Rm) (v, n2, I2, L2, R2) ∧ Ev L xs 78 31 48 [l0, l1] (v.toList ++ []) (n2, I2, L2, R2) r := ev_cV cm_31 [] dX3_readStatement_45 rfl rfl rfl rfl (Nat.le_of_ble_eq_true rfl) (rka_lt rfl (by decide)) (Nat.le_of_ble_eq_true rfl)
theorem x31_48 : Ev L xs ρ 31 48 [l0, l1] (.int x :: st) σ r ↔ if x = 0 then Ev L xs ρ 31 51 [l0, l1] st σ r else Ev L xs ρ 31 52 [l0, l1] st σ r := ev_ifne cm_31 dX3_readStatement_48 (by decide)
theorem x31_51 : Ev L xs ρ 31 51 [l0, l1] [] σ r ↔ r = (none, σ) := ev_retv cm_31 dX3_readStatement_51 rfl
theorem x31_52 : Ev L xs ρ 31 52 [some (.ref a), l1] st σ r ↔ Ev L xs ρ 31 53 [some (.ref a), l1] (.ref a :: st) σ r := ev_aload_n cm_31 dX3_readStatement_52 rfl rfl
theorem x31_53 : Ev L xs ρ 31 53 [l0, l1] (.ref a :: st) σ r ↔ Ev L xs ρ 31 54 [l0, l1] (.ref a :: .ref a :: st) σ r := ev_nx (ev_ex cm_31 dX3_readStatement_53 rfl rfl)
theorem x31_54 : Ev L xs ρ 31 54 [l0, l1] (.ref a :: st) (n, I, Lm, Rm) r ↔ (a < n ∧ shp a = (0, 3)) ∧ Ev L xs ρ 31 57 [l0, l1] (.int (I a 6) :: st) (n, I, Lm, Rm) r := ev_gtI cm_31 dX3_readStatement_54 rfl rfl
theorem x31_57 : Ev L xs ρ 31 57 [l0, l1] st σ r ↔ Ev L xs ρ 31 58 [l0, l1] (.int (1) :: st) σ r := ev_iconst cm_31 dX3_readStatement_57 (by decide)
theorem x31_58 : Ev L xs ρ 31 58 [l0, l1] (.int y :: .int x :: st) σ r ↔ Ev L xs ρ 31 59 [l0, l1] (.int (x + y) :: st) σ r := ev_nx (ev_ex cm_31 dX3_readStatement_58 rfl rfl)
theorem x31_59 : Ev L xs ρ 31 59 [l0, l1] (.int x :: .ref a :: st) (n, I, Lm, Rm) r ↔ (a < n ∧ shp a = (0, 3)) ∧ Ev L xs ρ 31 62 [l0, l1] st (n, up2 I a 6 x, Lm, Rm) r := ev_ptI cm_31 dX3_readStatement_59 rfl rfl (Or.inl rfl)
theorem x31_62 : Ev L xs ρ 31 62 [l0, some (.int x)] st σ r ↔ Ev L xs ρ 31 63 [l0, some (.int x)] (.int x :: st) σ r := ev_iload_n cm_31 dX3_readStatement_62 rfl rfl
theorem x31_63k0 : Ev L xs ρ 31 63 [l0, l1] (.int (0) :: st) σ r ↔ Ev L xs ρ 31 148 [l0, l1] st σ r := ev_ts cm_31 dX3_readStatement_63 (by decide) (o := 85) rfl (by decide)
theorem x31_63k1 : Ev L xs ρ 31 63 [l0, l1] (.int (1) :: st) σ r ↔ Ev L xs ρ 31 165 [l0, l1] st σ r := ev_ts cm_31 dX3_readStatement_63 (by decide) (o := 102) rfl (by decide)
theorem x31_63k2 : Ev L xs ρ 31 63 [l0, l1] (.int (2) :: st) σ r ↔ Ev L xs ρ 31 200 [l0, l1] st σ r := ev_ts cm_31 dX3_readStatement_63 (by decide) (o := 137) rfl (by decide)
theorem x31_63k3 : Ev L xs ρ 31 63 [l0, l1] (.int (3) :: st) σ r ↔ Ev L xs ρ 31 200 [l0, l1] st σ r := ev_ts cm_31 dX3_readStatement_63 (by decide) (o := 137) rfl (by decide)
theorem x31_63k4 : Ev L xs ρ 31 63 [l0, l1] (.int (4) :: st) σ r ↔ Ev L xs ρ 31 200 [l0, l1] st σ r := ev_ts cm_31 dX3_readStatement_63 (by decide) (o := 137) rfl (by decide)
theorem x31_63k5 : Ev L xs ρ 31 63 [l0, l1] (.int (5) :: st) σ r ↔ Ev L xs ρ 31 200 [l0, l1] st σ r := ev_ts cm_31 dX3_readStatement_63 (by decide) (o := 137) rfl (by decide)
theorem x31_63k6 : Ev L xs ρ 31 63 [l0, l1] (.int (6) :: st) σ r ↔ Ev L xs ρ 31 200 [l0, l1] st σ r := ev_ts cm_31 dX3_readStatement_63 (by decide) (o := 137) rfl (by decide)
theorem x31_63k7 : Ev L xs ρ 31 63 [l0, l1] (.int (7) :: st) σ r ↔ Ev L xs ρ 31 172 [l0, l1] st σ r := ev_ts cm_31 dX3_readStatement_63 (by decide) (o := 109) rfl (by decide)
theorem x31_63k8 : Ev L xs ρ 31 63 [l0, l1] (.int (8) :: st) σ r ↔ Ev L xs ρ 31 200 [l0, l1] st σ r := ev_ts cm_31 dX3_readStatement_63 (by decide) (o := 137) rfl (by decide)
theorem x31_63k9 : Ev L xs ρ 31 63 [l0, l1] (.int (9) :: st) σ r ↔ Ev L xs ρ 31 200 [l0, l1] st σ r := ev_ts cm_31 dX3_readStatement_63 (by decide) (o := 137) rfl (by decide)
theorem x31_63k10 : Ev L xs ρ 31 63 [l0, l1] (.int (10) :: st) σ r ↔ Ev L xs ρ 31 200 [l0, l1] st σ r := ev_ts cm_31 dX3_readStatement_63 (by decide) (o := 137) rfl (by decide)
theorem x31_63k11 : Ev L xs ρ 31 63 [l0, l1] (.int (11) :: st) σ r ↔ Ev L xs ρ 31 200 [l0, l1] st σ r := ev_ts cm_31 dX3_readStatement_63 (by decide) (o := 137) rfl (by decide)
theorem x31_63k12 : Ev L xs ρ 31 63 [l0, l1] (.int (12) :: st) σ r ↔ Ev L xs ρ 31 200 [l0, l1] st σ r := ev_ts cm_31 dX3_readStatement_63 (by decide) (o := 137) rfl (by decide)
theorem x31_63k13 : Ev L xs ρ 31 63 [l0, l1] (.int (13) :: st) σ r ↔ Ev L xs ρ 31 200 [l0, l1] st σ r := ev_ts cm_31 dX3_readStatement_63 (by decide) (o := 137) rfl (by decide)
theorem x31_63k14 : Ev L xs ρ 31 63 [l0, l1] (.int (14) :: st) σ r ↔ Ev L xs ρ 31 200 [l0, l1] st σ r := ev_ts cm_31 dX3_readStatement_63 (by decide) (o := 137) rfl (by decide)
theorem x31_63k15 : Ev L xs ρ 31 63 [l0, l1] (.int (15) :: st) σ r ↔ Ev L xs ρ 31 179 [l0, l1] st σ r := ev_ts cm_31 dX3_readStatement_63 (by decide) (o := 116) rfl (by decide)
theorem x31_63k16 : Ev L xs ρ 31 63 [l0, l1] (.int (16) :: st) σ r ↔ Ev L xs ρ 31 186 [l0, l1] st σ r := ev_ts cm_31 dX3_readStatement_63 (by decide) (o := 123) rfl (by decide)
theorem x31_63k17 : Ev L xs ρ 31 63 [l0, l1] (.int (17) :: st) σ r ↔ Ev L xs ρ 31 193 [l0, l1] st σ r := ev_ts cm_31 dX3_readStatement_63 (by decide) (o := 130) rfl (by decide)
theorem x31_63d (h : x.toInt < 0 ∨ 17 < x.toInt) : Ev L xs ρ 31 63 [l0, l1] (.int x :: st) σ r ↔ Ev L xs ρ 31 200 [l0, l1] st σ r := ev_td cm_31 dX3_readStatement_63 h (by decide)
theorem x31_148 : Ev L xs ρ 31 148 [some (.ref a), l1] st σ r ↔ Ev L xs ρ 31 149 [some (.ref a), l1] (.ref a :: st) σ r := ev_aload_n cm_31 dX3_readStatement_148 rfl rfl
theorem x31_149 : Ev L xs ρ 31 149 [l0, l1] (.ref a :: st) (n, I, Lm, Rm) r ↔ (a < n ∧ shp a = (0, 3)) ∧ Ev L xs ρ 31 152 [l0, l1] (rfv (Rm a 1) :: st) (n, I, Lm, Rm) r := ev_gtR cm_31 dX3_readStatement_149 rfl rfl
theorem x31_152 : Ev L xs ρ 31 152 [some (.ref a), l1] st σ r ↔ Ev L xs ρ 31 153 [some (.ref a), l1] (.ref a :: st) σ r := ev_aload_n cm_31 dX3_readStatement_152 rfl rfl
theorem x31_153 : Ev L xs ρ 31 153 [l0, l1] st σ r ↔ Ev L xs ρ 31 154 [l0, l1] (.int (0) :: st) σ r := ev_iconst cm_31 dX3_readStatement_153 (by decide)
theorem x31_154 : Ev L xs ρ 31 154 [l0, l1] st σ r ↔ Ev L xs ρ 31 156 [l0, l1] (.int (60) :: st) σ r := ev_bipush cm_31 dX3_readStatement_154 (by decide)
theorem x31_156 : Ev L xs 78 31 156 [l0, l1] (.int y :: .int x :: .ref b :: .ref a :: []) (n, I, Lm, Rm) r ↔ (b < n ∧ shp b = (0, 3)) ∧ ∃ v n2 I2 L2 R2, Em L xs 24 [.ref b, .int x, .int y] (n, I, Lm, Rm) (v, n2, I2, L2, R2) ∧ Ev L xs 78 31 159 [l0, l1] (v.toList ++ (.ref a :: [])) (n2, I2, L2, R2) r := ev_cV cm_31 [.int x, .int y] dX3_readStatement_156 rfl rfl rfl rfl (Nat.le_of_ble_eq_true rfl) (rka_lt rfl (by decide)) (Nat.le_of_ble_eq_true rfl)
theorem x31_159 : Ev L xs ρ 31 159 [l0, l1] (.int x :: .ref a :: st) (n, I, Lm, Rm) r ↔ (a < n ∧ shp a = (0, 5)) ∧ Ev L xs ρ 31 162 [l0, l1] st (n, up2 I a 6 x, Lm, Rm) r := ev_ptI cm_31 dX3_readStatement_159 rfl rfl (Or.inl rfl)
theorem x31_162 : Ev L xs ρ 31 162 [l0, l1] st σ r ↔ Ev L xs ρ 31 204 [l0, l1] st σ r := ev_goto cm_31 dX3_readStatement_162 (by decide)
theorem x31_165 : Ev L xs ρ 31 165 [some (.ref a), l1] st σ r ↔ Ev L xs ρ 31 166 [some (.ref a), l1] (.ref a :: st) σ r := ev_aload_n cm_31 dX3_readStatement_165 rfl rfl
theorem x31_166 : Ev L xs 78 31 166 [l0, l1] (.ref a :: []) (n, I, Lm, Rm) r ↔ (a < n ∧ shp a = (0, 3)) ∧ ∃ v n2 I2 L2 R2, Em L xs 34 [.ref a] (n, I, Lm, Rm) (v, n2, I2, L2, R2) ∧ Ev L xs 78 31 169 [l0, l1] (v.toList ++ []) (n2, I2, L2, R2) r := ev_cV cm_31 [] dX3_readStatement_166 rfl rfl rfl rfl (Nat.le_of_ble_eq_true rfl) (rka_lt rfl (by decide)) (Nat.le_of_ble_eq_true rfl)
theorem x31_169 : Ev L xs ρ 31 169 [l0, l1] st σ r ↔ Ev L xs ρ 31 204 [l0, l1] st σ r := ev_goto cm_31 dX3_readStatement_169 (by decide)
theorem x31_172 : Ev L xs ρ 31 172 [some (.ref a), l1] st σ r ↔ Ev L xs ρ 31 173 [some (.ref a), l1] (.ref a :: st) σ r := ev_aload_n cm_31 dX3_readStatement_172 rfl rfl
theorem x31_173 : Ev L xs 78 31 173 [l0, l1] (.ref a :: []) (n, I, Lm, Rm) r ↔ (a < n ∧ shp a = (0, 3)) ∧ ∃ v n2 I2 L2 R2, Em L xs 35 [.ref a] (n, I, Lm, Rm) (v, n2, I2, L2, R2) ∧ Ev L xs 78 31 176 [l0, l1] (v.toList ++ []) (n2, I2, L2, R2) r := ev_cV cm_31 [] dX3_readStatement_173 rfl rfl rfl rfl (Nat.le_of_ble_eq_true rfl) (rka_lt rfl (by decide)) (Nat.le_of_ble_eq_true rfl)
theorem x31_176 : Ev L xs ρ 31 176 [l0, l1] st σ r ↔ Ev L xs ρ 31 204 [l0, l1] st σ r := ev_goto cm_31 dX3_readStatement_176 (by decide)
theorem x31_179 : Ev L xs ρ 31 179 [some (.ref a), l1] st σ r ↔ Ev L xs ρ 31 180 [some (.ref a), l1] (.ref a :: st) σ r := ev_aload_n cm_31 dX3_readStatement_179 rfl rfl
theorem x31_180 : Ev L xs 78 31 180 [l0, l1] (.ref a :: []) (n, I, Lm, Rm) r ↔ (a < n ∧ shp a = (0, 3)) ∧ ∃ v n2 I2 L2 R2, Em L xs 36 [.ref a] (n, I, Lm, Rm) (v, n2, I2, L2, R2) ∧ Ev L xs 78 31 183 [l0, l1] (v.toList ++ []) (n2, I2, L2, R2) r := ev_cV cm_31 [] dX3_readStatement_180 rfl rfl rfl rfl (Nat.le_of_ble_eq_true rfl) (rka_lt rfl (by decide)) (Nat.le_of_ble_eq_true rfl)
theorem x31_183 : Ev L xs ρ 31 183 [l0, l1] st σ r ↔ Ev L xs ρ 31 204 [l0, l1] st σ r := ev_goto cm_31 dX3_readStatement_183 (by decide)
theorem x31_186 : Ev L xs ρ 31 186 [some (.ref a), l1] st σ r ↔ Ev L xs ρ 31 187 [some (.ref a), l1] (.ref a :: st) σ r := ev_aload_n cm_31 dX3_readStatement_186 rfl rfl
theorem x31_187 : Ev L xs 78 31 187 [l0, l1] (.ref a :: []) (n, I, Lm, Rm) r ↔ (a < n ∧ shp a = (0, 3)) ∧ ∃ v n2 I2 L2 R2, Em L xs 37 [.ref a] (n, I, Lm, Rm) (v, n2, I2, L2, R2) ∧ Ev L xs 78 31 190 [l0, l1] (v.toList ++ []) (n2, I2, L2, R2) r := ev_cV cm_31 [] dX3_readStatement_187 rfl rfl rfl rfl (Nat.le_of_ble_eq_true rfl) (rka_lt rfl (by decide)) (Nat.le_of_ble_eq_true rfl)
theorem x31_190 : Ev L xs ρ 31 190 [l0, l1] st σ r ↔ Ev L xs ρ 31 204 [l0, l1] st σ r := ev_goto cm_31 dX3_readStatement_190 (by decide)
theorem x31_193 : Ev L xs ρ 31 193 [some (.ref a), l1] st σ r ↔ Ev L xs ρ 31 194 [some (.ref a), l1] (.ref a :: st) σ r := ev_aload_n cm_31 dX3_readStatement_193 rfl rfl
theorem x31_194 : Ev L xs 78 31 194 [l0, l1] (.ref a :: []) (n, I, Lm, Rm) r ↔ (a < n ∧ shp a = (0, 3)) ∧ ∃ v n2 I2 L2 R2, Em L xs 38 [.ref a] (n, I, Lm, Rm) (v, n2, I2, L2, R2) ∧ Ev L xs 78 31 197 [l0, l1] (v.toList ++ []) (n2, I2, L2, R2) r := ev_cV cm_31 [] dX3_readStatement_194 rfl rfl rfl rfl (Nat.le_of_ble_eq_true rfl) (rka_lt rfl (by decide)) (Nat.le_of_ble_eq_true rfl)
theorem x31_197 : Ev L xs ρ 31 197 [l0, l1] st σ r ↔ Ev L xs ρ 31 204 [l0, l1] st σ r := ev_goto cm_31 dX3_readStatement_197 (by decide)
theorem x31_200 : Ev L xs ρ 31 200 [some (.ref a), l1] st σ r ↔ Ev L xs ρ 31 201 [some (.ref a), l1] (.ref a :: st) σ r := ev_aload_n cm_31 dX3_readStatement_200 rfl rfl
theorem x31_201 : Ev L xs 78 31 201 [l0, l1] (.ref a :: []) (n, I, Lm, Rm) r ↔ (a < n ∧ shp a = (0, 3)) ∧ ∃ v n2 I2 L2 R2, Em L xs 39 [.ref a] (n, I, Lm, Rm) (v, n2, I2, L2, R2) ∧ Ev L xs 78 31 204 [l0, l1] (v.toList ++ []) (n2, I2, L2, R2) r := ev_cV cm_31 [] dX3_readStatement_201 rfl rfl rfl rfl (Nat.le_of_ble_eq_true rfl) (rka_lt rfl (by decide)) (Nat.le_of_ble_eq_true rfl)
theorem x31_204 : Ev L xs ρ 31 204 [some (.ref a), l1] st σ r ↔ Ev L xs ρ 31 205 [some (.ref a), l1] (.ref a :: st) σ r := ev_aload_n cm_31 dX3_readStatement_204 rfl rfl
theorem x31_205 : Ev L xs ρ 31 205 [l0, l1] st σ r ↔ Ev L xs ρ 31 208 [l0, l1] (.int (315) :: st) σ r := ev_sipush cm_31 dX3_readStatement_205 (by decide)
theorem x31_208 : Ev L xs 78 31 208 [l0, l1] (.int x :: .ref a :: []) (n, I, Lm, Rm) r ↔ (a < n ∧ shp a = (0, 3)) ∧ ∃ v n2 I2 L2 R2, Em L xs 23 [.ref a, .int x] (n, I, Lm, Rm) (v, n2, I2, L2, R2) ∧ Ev L xs 78 31 211 [l0, l1] (v.toList ++ []) (n2, I2, L2, R2) r := ev_cV cm_31 [.int x] dX3_readStatement_208 rfl rfl rfl rfl (Nat.le_of_ble_eq_true rfl) (rka_lt rfl (by decide)) (Nat.le_of_ble_eq_true rfl)
theorem x31_211 : Ev L xs ρ 31 211 [some (.ref a), l1] st σ r ↔ Ev L xs ρ 31 212 [some (.ref a), l1] (.ref a :: st) σ r := ev_aload_n cm_31 dX3_readStatement_211 rfl rfl
theorem x31_212 : Ev L xs ρ 31 212 [l0, l1] (.ref a :: st) σ r ↔ Ev L xs ρ 31 213 [l0, l1] (.ref a :: .ref a :: st) σ r := ev_nx (ev_ex cm_31 dX3_readStatement_212 rfl rfl)
theorem x31_213 : Ev L xs ρ 31 213 [l0, l1] (.ref a :: st) (n, I, Lm, Rm) r ↔ (a < n ∧ shp a = (0, 3)) ∧ Ev L xs ρ 31 216 [l0, l1] (.int (I a 7) :: st) (n, I, Lm, Rm) r := ev_gtI cm_31 dX3_readStatement_213 rfl rfl
theorem x31_216 : Ev L xs ρ 31 216 [l0, l1] st σ r ↔ Ev L xs ρ 31 217 [l0, l1] (.int (1) :: st) σ r := ev_iconst cm_31 dX3_readStatement_216 (by decide)
theorem x31_217 : Ev L xs ρ 31 217 [l0, l1] (.int y :: .int x :: st) σ r ↔ Ev L xs ρ 31 218 [l0, l1] (.int (x + y) :: st) σ r := ev_nx (ev_ex cm_31 dX3_readStatement_217 rfl rfl)
theorem x31_218 : Ev L xs ρ 31 218 [l0, l1] (.int x :: .ref a :: st) (n, I, Lm, Rm) r ↔ (a < n ∧ shp a = (0, 3)) ∧ Ev L xs ρ 31 221 [l0, l1] st (n, up2 I a 7 x, Lm, Rm) r := ev_ptI cm_31 dX3_readStatement_218 rfl rfl (Or.inl rfl)
theorem x31_221 : Ev L xs ρ 31 221 [l0, l1] [] σ r ↔ r = (none, σ) := ev_retv cm_31 dX3_readStatement_221 rfl
theorem cm_32 : mcd 32 = cX3_isFull := rfl
theorem em_32 : Em L xs 32 [.ref a, .int x] σ r ↔ Ev L xs 0 32 0 [some (.ref a), some (.int x)] [] σ r := Iff.rfl
theorem x32_0 : Ev L xs ρ 32 0 [l0, some (.int x)] st σ r ↔ Ev L xs ρ 32 1 [l0, some (.int x)] (.int x :: st) σ r := ev_iload_n cm_32 dX3_isFull_0 rfl rfl
theorem x32_1k1 : Ev L xs ρ 32 1 [l0, l1] (.int (1) :: st) σ r ↔ Ev L xs ρ 32 44 [l0, l1] st σ r := ev_lk cm_32 dX3_isFull_1 (by decide) (o := 43) (by decide) (by decide)
theorem x32_1k7 : Ev L xs ρ 32 1 [l0, l1] (.int (7) :: st) σ r ↔ Ev L xs ρ 32 62 [l0, l1] st σ r := ev_lk cm_32 dX3_isFull_1 (by decide) (o := 61) (by decide) (by decide)
theorem x32_1k15 : Ev L xs ρ 32 1 [l0, l1] (.int (15) :: st) σ r ↔ Ev L xs ρ 32 79 [l0, l1] st σ r := ev_lk cm_32 dX3_isFull_1 (by decide) (o := 78) (by decide) (by decide)
theorem x32_1k18 : Ev L xs ρ 32 1 [l0, l1] (.int (18) :: st) σ r ↔ Ev L xs ρ 32 97 [l0, l1] st σ r := ev_lk cm_32 dX3_isFull_1 (by decide) (o := 96) (by decide) (by decide)
theorem x32_1d (h : Op.lookupswitch.offset #[(1, 43), (7, 61), (15, 78), (18, 96)].toList 114 x.toInt = 114) : Ev L xs ρ 32 1 [l0, l1] (.int x :: st) σ r ↔ Ev L xs ρ 32 115 [l0, l1] st σ r := ev_lk cm_32 dX3_isFull_1 (by decide) (o := 114) h (by decide)
theorem x32_44 : Ev L xs ρ 32 44 [some (.ref a), l1] st σ r ↔ Ev L xs ρ 32 45 [some (.ref a), l1] (.ref a :: st) σ r := ev_aload_n cm_32 dX3_isFull_44 rfl rfl
theorem x32_45 : Ev L xs ρ 32 45 [l0, l1] (.ref a :: st) (n, I, Lm, Rm) r ↔ (a < n ∧ shp a = (0, 3)) ∧ Ev L xs ρ 32 48 [l0, l1] (rfv (Rm a 2) :: st) (n, I, Lm, Rm) r := ev_gtR cm_32 dX3_isFull_45 rfl rfl
theorem x32_48 : Ev L xs ρ 32 48 [l0, l1] (.ref a :: st) (n, I, Lm, Rm) r ↔ (a < n ∧ shp a = (0, 6)) ∧ Ev L xs ρ 32 51 [l0, l1] (.int (I a 6) :: st) (n, I, Lm, Rm) r := ev_gtI cm_32 dX3_isFull_48 rfl rfl
theorem x32_51 : Ev L xs ρ 32 51 [l0, l1] st σ r ↔ Ev L xs ρ 32 53 [l0, l1] (.int (6) :: st) σ r := ev_bipush cm_32 dX3_isFull_51 (by decide)
theorem x32_53 : Ev L xs ρ 32 53 [l0, l1] (.int y :: .int x :: st) σ r ↔ if x < y then Ev L xs ρ 32 60 [l0, l1] st σ r else Ev L xs ρ 32 56 [l0, l1] st σ r := ev_iclt cm_32 dX3_isFull_53 (by decide)
theorem x32_56 : Ev L xs ρ 32 56 [l0, l1] st σ r ↔ Ev L xs ρ 32 57 [l0, l1] (.int (1) :: st) σ r := ev_iconst cm_32 dX3_isFull_56 (by decide)
theorem x32_57 : Ev L xs ρ 32 57 [l0, l1] st σ r ↔ Ev L xs ρ 32 61 [l0, l1] st σ r := ev_goto cm_32 dX3_isFull_57 (by decide)
theorem x32_60 : Ev L xs ρ 32 60 [l0, l1] st σ r ↔ Ev L xs ρ 32 61 [l0, l1] (.int (0) :: st) σ r := ev_iconst cm_32 dX3_isFull_60 (by decide)
theorem x32_61 : Ev L xs ρ 32 61 [l0, l1] [.int x] σ r ↔ (x = 0 ∨ x = 1) ∧ r = (some (.int x), σ) := ev_retz cm_32 dX3_isFull_61 rfl
theorem x32_62 : Ev L xs ρ 32 62 [some (.ref a), l1] st σ r ↔ Ev L xs ρ 32 63 [some (.ref a), l1] (.ref a :: st) σ r := ev_aload_n cm_32 dX3_isFull_62 rfl rfl
theorem x32_63 : Ev L xs ρ 32 63 [l0, l1] (.ref a :: st) (n, I, Lm, Rm) r ↔ (a < n ∧ shp a = (0, 3)) ∧ Ev L xs ρ 32 66 [l0, l1] (rfv (Rm a 3) :: st) (n, I, Lm, Rm) r := ev_gtR cm_32 dX3_isFull_63 rfl rfl
theorem x32_66 : Ev L xs ρ 32 66 [l0, l1] (.ref a :: st) (n, I, Lm, Rm) r ↔ (a < n ∧ shp a = (0, 1)) ∧ Ev L xs ρ 32 69 [l0, l1] (.int (I a 5) :: st) (n, I, Lm, Rm) r := ev_gtI cm_32 dX3_isFull_66 rfl rfl
theorem x32_69 : Ev L xs ρ 32 69 [l0, l1] st σ r ↔ Ev L xs ρ 32 70 [l0, l1] (.int (4) :: st) σ r := ev_iconst cm_32 dX3_isFull_69 (by decide)
theorem x32_70 : Ev L xs ρ 32 70 [l0, l1] (.int y :: .int x :: st) σ r ↔ if x < y then Ev L xs ρ 32 77 [l0, l1] st σ r else Ev L xs ρ 32 73 [l0, l1] st σ r := ev_iclt cm_32 dX3_isFull_70 (by decide)
theorem x32_73 : Ev L xs ρ 32 73 [l0, l1] st σ r ↔ Ev L xs ρ 32 74 [l0, l1] (.int (1) :: st) σ r := ev_iconst cm_32 dX3_isFull_73 (by decide)
theorem x32_74 : Ev L xs ρ 32 74 [l0, l1] st σ r ↔ Ev L xs ρ 32 78 [l0, l1] st σ r := ev_goto cm_32 dX3_isFull_74 (by decide)
theorem x32_77 : Ev L xs ρ 32 77 [l0, l1] st σ r ↔ Ev L xs ρ 32 78 [l0, l1] (.int (0) :: st) σ r := ev_iconst cm_32 dX3_isFull_77 (by decide)
theorem x32_78 : Ev L xs ρ 32 78 [l0, l1] [.int x] σ r ↔ (x = 0 ∨ x = 1) ∧ r = (some (.int x), σ) := ev_retz cm_32 dX3_isFull_78 rfl
theorem x32_79 : Ev L xs ρ 32 79 [some (.ref a), l1] st σ r ↔ Ev L xs ρ 32 80 [some (.ref a), l1] (.ref a :: st) σ r := ev_aload_n cm_32 dX3_isFull_79 rfl rfl
theorem x32_80 : Ev L xs ρ 32 80 [l0, l1] (.ref a :: st) (n, I, Lm, Rm) r ↔ (a < n ∧ shp a = (0, 3)) ∧ Ev L xs ρ 32 83 [l0, l1] (rfv (Rm a 4) :: st) (n, I, Lm, Rm) r := ev_gtR cm_32 dX3_isFull_80 rfl rfl
theorem x32_83 : Ev L xs ρ 32 83 [l0, l1] (.ref a :: st) (n, I, Lm, Rm) r ↔ (a < n ∧ shp a = (0, 2)) ∧ Ev L xs ρ 32 86 [l0, l1] (.int (I a 8) :: st) (n, I, Lm, Rm) r := ev_gtI cm_32 dX3_isFull_83 rfl rfl
theorem x32_86 : Ev L xs ρ 32 86 [l0, l1] st σ r ↔ Ev L xs ρ 32 88 [l0, l1] (.int (12) :: st) σ r := ev_bipush cm_32 dX3_isFull_86 (by decide)
theorem x32_88 : Ev L xs ρ 32 88 [l0, l1] (.int y :: .int x :: st) σ r ↔ if x < y then Ev L xs ρ 32 95 [l0, l1] st σ r else Ev L xs ρ 32 91 [l0, l1] st σ r := ev_iclt cm_32 dX3_isFull_88 (by decide)
theorem x32_91 : Ev L xs ρ 32 91 [l0, l1] st σ r ↔ Ev L xs ρ 32 92 [l0, l1] (.int (1) :: st) σ r := ev_iconst cm_32 dX3_isFull_91 (by decide)
theorem x32_92 : Ev L xs ρ 32 92 [l0, l1] st σ r ↔ Ev L xs ρ 32 96 [l0, l1] st σ r := ev_goto cm_32 dX3_isFull_92 (by decide)
theorem x32_95 : Ev L xs ρ 32 95 [l0, l1] st σ r ↔ Ev L xs ρ 32 96 [l0, l1] (.int (0) :: st) σ r := ev_iconst cm_32 dX3_isFull_95 (by decide)
theorem x32_96 : Ev L xs ρ 32 96 [l0, l1] [.int x] σ r ↔ (x = 0 ∨ x = 1) ∧ r = (some (.int x), σ) := ev_retz cm_32 dX3_isFull_96 rfl
theorem x32_97 : Ev L xs ρ 32 97 [some (.ref a), l1] st σ r ↔ Ev L xs ρ 32 98 [some (.ref a), l1] (.ref a :: st) σ r := ev_aload_n cm_32 dX3_isFull_97 rfl rfl
theorem x32_98 : Ev L xs ρ 32 98 [l0, l1] (.ref a :: st) (n, I, Lm, Rm) r ↔ (a < n ∧ shp a = (0, 3)) ∧ Ev L xs ρ 32 101 [l0, l1] (rfv (Rm a 5) :: st) (n, I, Lm, Rm) r := ev_gtR cm_32 dX3_isFull_98 rfl rfl
theorem x32_101 : Ev L xs ρ 32 101 [l0, l1] (.ref a :: st) (n, I, Lm, Rm) r ↔ (a < n ∧ shp a = (0, 4)) ∧ Ev L xs ρ 32 104 [l0, l1] (.int (I a 6) :: st) (n, I, Lm, Rm) r := ev_gtI cm_32 dX3_isFull_101 rfl rfl
theorem x32_104 : Ev L xs ρ 32 104 [l0, l1] st σ r ↔ Ev L xs ρ 32 106 [l0, l1] (.int (12) :: st) σ r := ev_bipush cm_32 dX3_isFull_104 (by decide)
theorem x32_106 : Ev L xs ρ 32 106 [l0, l1] (.int y :: .int x :: st) σ r ↔ if x < y then Ev L xs ρ 32 113 [l0, l1] st σ r else Ev L xs ρ 32 109 [l0, l1] st σ r := ev_iclt cm_32 dX3_isFull_106 (by decide)
theorem x32_109 : Ev L xs ρ 32 109 [l0, l1] st σ r ↔ Ev L xs ρ 32 110 [l0, l1] (.int (1) :: st) σ r := ev_iconst cm_32 dX3_isFull_109 (by decide)
theorem x32_110 : Ev L xs ρ 32 110 [l0, l1] st σ r ↔ Ev L xs ρ 32 114 [l0, l1] st σ r := ev_goto cm_32 dX3_isFull_110 (by decide)
theorem x32_113 : Ev L xs ρ 32 113 [l0, l1] st σ r ↔ Ev L xs ρ 32 114 [l0, l1] (.int (0) :: st) σ r := ev_iconst cm_32 dX3_isFull_113 (by decide)
theorem x32_114 : Ev L xs ρ 32 114 [l0, l1] [.int x] σ r ↔ (x = 0 ∨ x = 1) ∧ r = (some (.int x), σ) := ev_retz cm_32 dX3_isFull_114 rfl
theorem x32_115 : Ev L xs ρ 32 115 [l0, l1] st σ r ↔ Ev L xs ρ 32 116 [l0, l1] (.int (0) :: st) σ r := ev_iconst cm_32 dX3_isFull_115 (by decide)
theorem x32_116 : Ev L xs ρ 32 116 [l0, l1] [.int x] σ r ↔ (x = 0 ∨ x = 1) ∧ r = (some (.int x), σ) := ev_retz cm_32 dX3_isFull_116 rfl
theorem cm_33 : mcd 33 = cX3_starts := rfl
theorem em_33 : Em L xs 33 [.int x] σ r ↔ Ev L xs 0 33 0 [some (.int x)] [] σ r := Iff.rfl
theorem x33_0 : Ev L xs ρ 33 0 [some (.int x)] st σ r ↔ Ev L xs ρ 33 1 [some (.int x)] (.int x :: st) σ r := ev_iload_n cm_33 dX3_starts_0 rfl rfl
theorem x33_1 : Ev L xs ρ 33 1 [l0] (.int x :: st) σ r ↔ if x = 0 then Ev L xs ρ 33 39 [l0] st σ r else Ev L xs ρ 33 4 [l0] st σ r := ev_ifeq cm_33 dX3_starts_1 (by decide)
theorem x33_4 : Ev L xs ρ 33 4 [some (.int x)] st σ r ↔ Ev L xs ρ 33 5 [some (.int x)] (.int x :: st) σ r := ev_iload_n cm_33 dX3_starts_4 rfl rfl
theorem x33_5 : Ev L xs ρ 33 5 [l0] st σ r ↔ Ev L xs ρ 33 6 [l0] (.int (1) :: st) σ r := ev_iconst cm_33 dX3_starts_5 (by decide)
theorem x33_6 : Ev L xs ρ 33 6 [l0] (.int y :: .int x :: st) σ r ↔ if x = y then Ev L xs ρ 33 39 [l0] st σ r else Ev L xs ρ 33 9 [l0] st σ r := ev_iceq cm_33 dX3_starts_6 (by decide)
theorem x33_9 : Ev L xs ρ 33 9 [some (.int x)] st σ r ↔ Ev L xs ρ 33 10 [some (.int x)] (.int x :: st) σ r := ev_iload_n cm_33 dX3_starts_9 rfl rfl
theorem x33_10 : Ev L xs ρ 33 10 [l0] st σ r ↔ Ev L xs ρ 33 12 [l0] (.int (7) :: st) σ r := ev_bipush cm_33 dX3_starts_10 (by decide)
theorem x33_12 : Ev L xs ρ 33 12 [l0] (.int y :: .int x :: st) σ r ↔ if x = y then Ev L xs ρ 33 39 [l0] st σ r else Ev L xs ρ 33 15 [l0] st σ r := ev_iceq cm_33 dX3_starts_12 (by decide)
theorem x33_15 : Ev L xs ρ 33 15 [some (.int x)] st σ r ↔ Ev L xs ρ 33 16 [some (.int x)] (.int x :: st) σ r := ev_iload_n cm_33 dX3_starts_15 rfl rfl
theorem x33_16 : Ev L xs ρ 33 16 [l0] st σ r ↔ Ev L xs ρ 33 18 [l0] (.int (15) :: st) σ r := ev_bipush cm_33 dX3_starts_16 (by decide)
theorem x33_18 : Ev L xs ρ 33 18 [l0] (.int y :: .int x :: st) σ r ↔ if x = y then Ev L xs ρ 33 39 [l0] st σ r else Ev L xs ρ 33 21 [l0] st σ r := ev_iceq cm_33 dX3_starts_18 (by decide)
theorem x33_21 : Ev L xs ρ 33 21 [some (.int x)] st σ r ↔ Ev L xs ρ 33 22 [some (.int x)] (.int x :: st) σ r := ev_iload_n cm_33 dX3_starts_21 rfl rfl
theorem x33_22 : Ev L xs ρ 33 22 [l0] st σ r ↔ Ev L xs ρ 33 24 [l0] (.int (16) :: st) σ r := ev_bipush cm_33 dX3_starts_22 (by decide)
theorem x33_24 : Ev L xs ρ 33 24 [l0] (.int y :: .int x :: st) σ r ↔ if x = y then Ev L xs ρ 33 39 [l0] st σ r else Ev L xs ρ 33 27 [l0] st σ r := ev_iceq cm_33 dX3_starts_24 (by decide)
theorem x33_27 : Ev L xs ρ 33 27 [some (.int x)] st σ r ↔ Ev L xs ρ 33 28 [some (.int x)] (.int x :: st) σ r := ev_iload_n cm_33 dX3_starts_27 rfl rfl
theorem x33_28 : Ev L xs ρ 33 28 [l0] st σ r ↔ Ev L xs ρ 33 30 [l0] (.int (17) :: st) σ r := ev_bipush cm_33 dX3_starts_28 (by decide)
theorem x33_30 : Ev L xs ρ 33 30 [l0] (.int y :: .int x :: st) σ r ↔ if x = y then Ev L xs ρ 33 39 [l0] st σ r else Ev L xs ρ 33 33 [l0] st σ r := ev_iceq cm_33 dX3_starts_30 (by decide)
theorem x33_33 : Ev L xs ρ 33 33 [some (.int x)] st σ r ↔ Ev L xs ρ 33 34 [some (.int x)] (.int x :: st) σ r := ev_iload_n cm_33 dX3_starts_33 rfl rfl
theorem x33_34 : Ev L xs ρ 33 34 [l0] st σ r ↔ Ev L xs ρ 33 36 [l0] (.int (18) :: st) σ r := ev_bipush cm_33 dX3_starts_34 (by decide)
theorem x33_36 : Ev L xs ρ 33 36 [l0] (.int y :: .int x :: st) σ r ↔ if x = y then Ev L xs ρ 33 39 [l0] st σ r else Ev L xs ρ 33 43 [l0] st σ r := ev_icne cm_33 dX3_starts_36 (by decide)
theorem x33_39 : Ev L xs ρ 33 39 [l0] st σ r ↔ Ev L xs ρ 33 40 [l0] (.int (1) :: st) σ r := ev_iconst cm_33 dX3_starts_39 (by decide)
theorem x33_40 : Ev L xs ρ 33 40 [l0] st σ r ↔ Ev L xs ρ 33 44 [l0] st σ r := ev_goto cm_33 dX3_starts_40 (by decide)
theorem x33_43 : Ev L xs ρ 33 43 [l0] st σ r ↔ Ev L xs ρ 33 44 [l0] (.int (0) :: st) σ r := ev_iconst cm_33 dX3_starts_43 (by decide)
theorem x33_44 : Ev L xs ρ 33 44 [l0] [.int x] σ r ↔ (x = 0 ∨ x = 1) ∧ r = (some (.int x), σ) := ev_retz cm_33 dX3_starts_44 rfl
theorem cm_34 : mcd 34 = cX3_readSort := rfl
theorem em_34 : Em L xs 34 [.ref a] σ r ↔ Ev L xs 4 34 0 [some (.ref a), none] [] σ r := Iff.rfl
theorem x34_0 : Ev L xs ρ 34 0 [some (.ref a), l1] st σ r ↔ Ev L xs ρ 34 1 [some (.ref a), l1] (.ref a :: st) σ r := ev_aload_n cm_34 dX3_readSort_0 rfl rfl
theorem x34_1 : Ev L xs ρ 34 1 [l0, l1] (.ref a :: st) (n, I, Lm, Rm) r ↔ (a < n ∧ shp a = (0, 3)) ∧ Ev L xs ρ 34 4 [l0, l1] (rfv (Rm a 2) :: st) (n, I, Lm, Rm) r := ev_gtR cm_34 dX3_readSort_1 rfl rfl
theorem x34_4 : Ev L xs ρ 34 4 [l0, l1] (.ref a :: st) (n, I, Lm, Rm) r ↔ (a < n ∧ shp a = (0, 6)) ∧ Ev L xs ρ 34 7 [l0, l1] (.int (I a 6) :: st) (n, I, Lm, Rm) r := ev_gtI cm_34 dX3_readSort_4 rfl rfl
theorem x34_7 : Ev L xs ρ 34 7 [l0, l1] (.int x :: st) σ r ↔ Ev L xs ρ 34 8 [l0, some (.int x)] st σ r := ev_istore_n cm_34 dX3_readSort_7 rfl (Nat.le_of_ble_eq_true rfl)
theorem x34_8 : Ev L xs ρ 34 8 [some (.ref a), l1] st σ r ↔ Ev L xs ρ 34 9 [some (.ref a), l1] (.ref a :: st) σ r := ev_aload_n cm_34 dX3_readSort_8 rfl rfl
theorem x34_9 : Ev L xs ρ 34 9 [l0, l1] (.ref a :: st) (n, I, Lm, Rm) r ↔ (a < n ∧ shp a = (0, 3)) ∧ Ev L xs ρ 34 12 [l0, l1] (rfv (Rm a 2) :: st) (n, I, Lm, Rm) r := ev_gtR cm_34 dX3_readSort_9 rfl rfl
theorem x34_12 : Ev L xs ρ 34 12 [l0, l1] (.ref a :: st) (n, I, Lm, Rm) r ↔ (a < n ∧ shp a = (0, 6)) ∧ Ev L xs ρ 34 15 [l0, l1] (rfv (Rm a 0) :: st) (n, I, Lm, Rm) r := ev_gtR cm_34 dX3_readSort_12 rfl rfl
theorem x34_15 : Ev L xs ρ 34 15 [l0, some (.int x)] st σ r ↔ Ev L xs ρ 34 16 [l0, some (.int x)] (.int x :: st) σ r := ev_iload_n cm_34 dX3_readSort_15 rfl rfl
theorem x34_16 : Ev L xs ρ 34 16 [some (.ref a), l1] st σ r ↔ Ev L xs ρ 34 17 [some (.ref a), l1] (.ref a :: st) σ r := ev_aload_n cm_34 dX3_readSort_16 rfl rfl
theorem x34_17 : Ev L xs 4 34 17 [l0, l1] (.ref b :: .int x :: .ref a :: []) (n, I, Lm, Rm) r ↔ (b < n ∧ shp b = (0, 3)) ∧ ∃ v n2 I2 L2 R2, Em L xs 27 [.ref b] (n, I, Lm, Rm) (v, n2, I2, L2, R2) ∧ Ev L xs 4 34 20 [l0, l1] (v.toList ++ (.int x :: .ref a :: [])) (n2, I2, L2, R2) r := ev_cV cm_34 [] dX3_readSort_17 rfl rfl rfl rfl (Nat.le_of_ble_eq_true rfl) (rka_lt rfl (by decide)) (Nat.le_of_ble_eq_true rfl)
theorem x34_20 : Ev L xs 4 34 20 [l0, l1] (.int y :: .int x :: .ref a :: []) σ r ↔ ∃ v n2 I2 L2 R2, Em L xs 161 [.ref a, .int x, .int y] σ (v, n2, I2, L2, R2) ∧ Ev L xs 4 34 23 [l0, l1] (v.toList ++ []) (n2, I2, L2, R2) r := ev_cS cm_34 [.ref a, .int x, .int y] dX3_readSort_20 rfl rfl rfl (Nat.le_of_ble_eq_true rfl) (rka_lt rfl (by decide)) (Nat.le_of_ble_eq_true rfl)
theorem x34_23 : Ev L xs ρ 34 23 [some (.ref a), l1] st σ r ↔ Ev L xs ρ 34 24 [some (.ref a), l1] (.ref a :: st) σ r := ev_aload_n cm_34 dX3_readSort_23 rfl rfl
theorem x34_24 : Ev L xs ρ 34 24 [l0, l1] (.ref a :: st) (n, I, Lm, Rm) r ↔ (a < n ∧ shp a = (0, 3)) ∧ Ev L xs ρ 34 27 [l0, l1] (rfv (Rm a 2) :: st) (n, I, Lm, Rm) r := ev_gtR cm_34 dX3_readSort_24 rfl rfl
theorem x34_27 : Ev L xs ρ 34 27 [l0, l1] (.ref a :: st) (n, I, Lm, Rm) r ↔ (a < n ∧ shp a = (0, 6)) ∧ Ev L xs ρ 34 30 [l0, l1] (rfv (Rm a 1) :: st) (n, I, Lm, Rm) r := ev_gtR cm_34 dX3_readSort_27 rfl rfl
theorem x34_30 : Ev L xs ρ 34 30 [l0, some (.int x)] st σ r ↔ Ev L xs ρ 34 31 [l0, some (.int x)] (.int x :: st) σ r := ev_iload_n cm_34 dX3_readSort_30 rfl rfl
theorem x34_31 : Ev L xs ρ 34 31 [some (.ref a), l1] st σ r ↔ Ev L xs ρ 34 32 [some (.ref a), l1] (.ref a :: st) σ r := ev_aload_n cm_34 dX3_readSort_31 rfl rfl
theorem x34_32 : Ev L xs ρ 34 32 [l0, l1] st σ r ↔ Ev L xs ρ 34 33 [l0, l1] (.int (2) :: st) σ r := ev_iconst cm_34 dX3_readSort_32 (by decide)
theorem x34_33 : Ev L xs ρ 34 33 [l0, l1] st σ r ↔ Ev L xs ρ 34 34 [l0, l1] (.int (0) :: st) σ r := ev_iconst cm_34 dX3_readSort_33 (by decide)
theorem x34_34 : Ev L xs ρ 34 34 [l0, l1] st σ r ↔ Ev L xs ρ 34 36 [l0, l1] (.int (99) :: st) σ r := ev_bipush cm_34 dX3_readSort_34 (by decide)
theorem x34_36 : Ev L xs 4 34 36 [l0, l1] (.int x3 :: .int z :: .int y :: .ref b :: .int x :: .ref a :: []) (n, I, Lm, Rm) r ↔ (b < n ∧ shp b = (0, 3)) ∧ ∃ v n2 I2 L2 R2, Em L xs 25 [.ref b, .int y, .int z, .int x3] (n, I, Lm, Rm) (v, n2, I2, L2, R2) ∧ Ev L xs 4 34 39 [l0, l1] (v.toList ++ (.int x :: .ref a :: [])) (n2, I2, L2, R2) r := ev_cV cm_34 [.int y, .int z, .int x3] dX3_readSort_36 rfl rfl rfl rfl (Nat.le_of_ble_eq_true rfl) (rka_lt rfl (by decide)) (Nat.le_of_ble_eq_true rfl)
theorem x34_39 : Ev L xs 4 34 39 [l0, l1] (.int y :: .int x :: .ref a :: []) σ r ↔ ∃ v n2 I2 L2 R2, Em L xs 161 [.ref a, .int x, .int y] σ (v, n2, I2, L2, R2) ∧ Ev L xs 4 34 42 [l0, l1] (v.toList ++ []) (n2, I2, L2, R2) r := ev_cS cm_34 [.ref a, .int x, .int y] dX3_readSort_39 rfl rfl rfl (Nat.le_of_ble_eq_true rfl) (rka_lt rfl (by decide)) (Nat.le_of_ble_eq_true rfl)
theorem x34_42 : Ev L xs ρ 34 42 [some (.ref a), l1] st σ r ↔ Ev L xs ρ 34 43 [some (.ref a), l1] (.ref a :: st) σ r := ev_aload_n cm_34 dX3_readSort_42 rfl rfl
theorem x34_43 : Ev L xs ρ 34 43 [l0, l1] (.ref a :: st) (n, I, Lm, Rm) r ↔ (a < n ∧ shp a = (0, 3)) ∧ Ev L xs ρ 34 46 [l0, l1] (rfv (Rm a 2) :: st) (n, I, Lm, Rm) r := ev_gtR cm_34 dX3_readSort_43 rfl rfl
theorem x34_46 : Ev L xs ρ 34 46 [l0, l1] (.ref a :: st) (n, I, Lm, Rm) r ↔ (a < n ∧ shp a = (0, 6)) ∧ Ev L xs ρ 34 49 [l0, l1] (rfv (Rm a 2) :: st) (n, I, Lm, Rm) r := ev_gtR cm_34 dX3_readSort_46 rfl rfl
theorem x34_49 : Ev L xs ρ 34 49 [l0, some (.int x)] st σ r ↔ Ev L xs ρ 34 50 [l0, some (.int x)] (.int x :: st) σ r := ev_iload_n cm_34 dX3_readSort_49 rfl rfl
theorem x34_50 : Ev L xs ρ 34 50 [some (.ref a), l1] st σ r ↔ Ev L xs ρ 34 51 [some (.ref a), l1] (.ref a :: st) σ r := ev_aload_n cm_34 dX3_readSort_50 rfl rfl
theorem x34_51 : Ev L xs ρ 34 51 [l0, l1] st σ r ↔ Ev L xs ρ 34 52 [l0, l1] (.int (3) :: st) σ r := ev_iconst cm_34 dX3_readSort_51 (by decide)
theorem x34_52 : Ev L xs ρ 34 52 [l0, l1] st σ r ↔ Ev L xs ρ 34 53 [l0, l1] (.int (0) :: st) σ r := ev_iconst cm_34 dX3_readSort_52 (by decide)
theorem x34_53 : Ev L xs ρ 34 53 [l0, l1] st σ r ↔ Ev L xs ρ 34 55 [l0, l1] (.int (99) :: st) σ r := ev_bipush cm_34 dX3_readSort_53 (by decide)
theorem x34_55 : Ev L xs 4 34 55 [l0, l1] (.int x3 :: .int z :: .int y :: .ref b :: .int x :: .ref a :: []) (n, I, Lm, Rm) r ↔ (b < n ∧ shp b = (0, 3)) ∧ ∃ v n2 I2 L2 R2, Em L xs 25 [.ref b, .int y, .int z, .int x3] (n, I, Lm, Rm) (v, n2, I2, L2, R2) ∧ Ev L xs 4 34 58 [l0, l1] (v.toList ++ (.int x :: .ref a :: [])) (n2, I2, L2, R2) r := ev_cV cm_34 [.int y, .int z, .int x3] dX3_readSort_55 rfl rfl rfl rfl (Nat.le_of_ble_eq_true rfl) (rka_lt rfl (by decide)) (Nat.le_of_ble_eq_true rfl)
theorem x34_58 : Ev L xs 4 34 58 [l0, l1] (.int y :: .int x :: .ref a :: []) σ r ↔ ∃ v n2 I2 L2 R2, Em L xs 161 [.ref a, .int x, .int y] σ (v, n2, I2, L2, R2) ∧ Ev L xs 4 34 61 [l0, l1] (v.toList ++ []) (n2, I2, L2, R2) r := ev_cS cm_34 [.ref a, .int x, .int y] dX3_readSort_58 rfl rfl rfl (Nat.le_of_ble_eq_true rfl) (rka_lt rfl (by decide)) (Nat.le_of_ble_eq_true rfl)
theorem x34_61 : Ev L xs ρ 34 61 [some (.ref a), l1] st σ r ↔ Ev L xs ρ 34 62 [some (.ref a), l1] (.ref a :: st) σ r := ev_aload_n cm_34 dX3_readSort_61 rfl rfl
theorem x34_62 : Ev L xs ρ 34 62 [l0, l1] (.ref a :: st) (n, I, Lm, Rm) r ↔ (a < n ∧ shp a = (0, 3)) ∧ Ev L xs ρ 34 65 [l0, l1] (rfv (Rm a 2) :: st) (n, I, Lm, Rm) r := ev_gtR cm_34 dX3_readSort_62 rfl rfl
theorem x34_65 : Ev L xs ρ 34 65 [l0, l1] (.ref a :: st) (n, I, Lm, Rm) r ↔ (a < n ∧ shp a = (0, 6)) ∧ Ev L xs ρ 34 68 [l0, l1] (rfv (Rm a 3) :: st) (n, I, Lm, Rm) r := ev_gtR cm_34 dX3_readSort_65 rfl rfl
theorem x34_68 : Ev L xs ρ 34 68 [l0, some (.int x)] st σ r ↔ Ev L xs ρ 34 69 [l0, some (.int x)] (.int x :: st) σ r := ev_iload_n cm_34 dX3_readSort_68 rfl rfl
theorem x34_69 : Ev L xs ρ 34 69 [some (.ref a), l1] st σ r ↔ Ev L xs ρ 34 70 [some (.ref a), l1] (.ref a :: st) σ r := ev_aload_n cm_34 dX3_readSort_69 rfl rfl
theorem x34_70 : Ev L xs ρ 34 70 [l0, l1] st σ r ↔ Ev L xs ρ 34 71 [l0, l1] (.int (4) :: st) σ r := ev_iconst cm_34 dX3_readSort_70 (by decide)
theorem x34_71 : Ev L xs ρ 34 71 [l0, l1] st σ r ↔ Ev L xs ρ 34 72 [l0, l1] (.int (0) :: st) σ r := ev_iconst cm_34 dX3_readSort_71 (by decide)
theorem x34_72 : Ev L xs ρ 34 72 [l0, l1] st σ r ↔ Ev L xs ρ 34 74 [l0, l1] (.int (100) :: st) σ r := ev_bipush cm_34 dX3_readSort_72 (by decide)
theorem x34_74 : Ev L xs 4 34 74 [l0, l1] (.int x3 :: .int z :: .int y :: .ref b :: .int x :: .ref a :: []) (n, I, Lm, Rm) r ↔ (b < n ∧ shp b = (0, 3)) ∧ ∃ v n2 I2 L2 R2, Em L xs 25 [.ref b, .int y, .int z, .int x3] (n, I, Lm, Rm) (v, n2, I2, L2, R2) ∧ Ev L xs 4 34 77 [l0, l1] (v.toList ++ (.int x :: .ref a :: [])) (n2, I2, L2, R2) r := ev_cV cm_34 [.int y, .int z, .int x3] dX3_readSort_74 rfl rfl rfl rfl (Nat.le_of_ble_eq_true rfl) (rka_lt rfl (by decide)) (Nat.le_of_ble_eq_true rfl)
theorem x34_77 : Ev L xs 4 34 77 [l0, l1] (.int y :: .int x :: .ref a :: []) σ r ↔ ∃ v n2 I2 L2 R2, Em L xs 161 [.ref a, .int x, .int y] σ (v, n2, I2, L2, R2) ∧ Ev L xs 4 34 80 [l0, l1] (v.toList ++ []) (n2, I2, L2, R2) r := ev_cS cm_34 [.ref a, .int x, .int y] dX3_readSort_77 rfl rfl rfl (Nat.le_of_ble_eq_true rfl) (rka_lt rfl (by decide)) (Nat.le_of_ble_eq_true rfl)
theorem x34_80 : Ev L xs ρ 34 80 [some (.ref a), l1] st σ r ↔ Ev L xs ρ 34 81 [some (.ref a), l1] (.ref a :: st) σ r := ev_aload_n cm_34 dX3_readSort_80 rfl rfl
theorem x34_81 : Ev L xs ρ 34 81 [l0, l1] (.ref a :: st) (n, I, Lm, Rm) r ↔ (a < n ∧ shp a = (0, 3)) ∧ Ev L xs ρ 34 84 [l0, l1] (rfv (Rm a 2) :: st) (n, I, Lm, Rm) r := ev_gtR cm_34 dX3_readSort_81 rfl rfl
theorem x34_84 : Ev L xs ρ 34 84 [l0, l1] (.ref a :: st) (n, I, Lm, Rm) r ↔ (a < n ∧ shp a = (0, 6)) ∧ Ev L xs ρ 34 87 [l0, l1] (rfv (Rm a 4) :: st) (n, I, Lm, Rm) r := ev_gtR cm_34 dX3_readSort_84 rfl rfl
theorem x34_87 : Ev L xs ρ 34 87 [l0, some (.int x)] st σ r ↔ Ev L xs ρ 34 88 [l0, some (.int x)] (.int x :: st) σ r := ev_iload_n cm_34 dX3_readSort_87 rfl rfl
theorem x34_88 : Ev L xs ρ 34 88 [some (.ref a), l1] st σ r ↔ Ev L xs ρ 34 89 [some (.ref a), l1] (.ref a :: st) σ r := ev_aload_n cm_34 dX3_readSort_88 rfl rfl
theorem x34_89 : Ev L xs ρ 34 89 [l0, l1] st σ r ↔ Ev L xs ρ 34 90 [l0, l1] (.int (5) :: st) σ r := ev_iconst cm_34 dX3_readSort_89 (by decide)
theorem x34_90 : Ev L xs ρ 34 90 [l0, l1] st σ r ↔ Ev L xs ρ 34 91 [l0, l1] (.int (0) :: st) σ r := ev_iconst cm_34 dX3_readSort_90 (by decide)
theorem x34_91 : Ev L xs ρ 34 91 [l0, l1] st σ r ↔ Ev L xs ρ 34 94 [l0, l1] (.int (999) :: st) σ r := ev_sipush cm_34 dX3_readSort_91 (by decide)
theorem x34_94 : Ev L xs 4 34 94 [l0, l1] (.int x3 :: .int z :: .int y :: .ref b :: .int x :: .ref a :: []) (n, I, Lm, Rm) r ↔ (b < n ∧ shp b = (0, 3)) ∧ ∃ v n2 I2 L2 R2, Em L xs 25 [.ref b, .int y, .int z, .int x3] (n, I, Lm, Rm) (v, n2, I2, L2, R2) ∧ Ev L xs 4 34 97 [l0, l1] (v.toList ++ (.int x :: .ref a :: [])) (n2, I2, L2, R2) r := ev_cV cm_34 [.int y, .int z, .int x3] dX3_readSort_94 rfl rfl rfl rfl (Nat.le_of_ble_eq_true rfl) (rka_lt rfl (by decide)) (Nat.le_of_ble_eq_true rfl)
theorem x34_97 : Ev L xs 4 34 97 [l0, l1] (.int y :: .int x :: .ref a :: []) σ r ↔ ∃ v n2 I2 L2 R2, Em L xs 161 [.ref a, .int x, .int y] σ (v, n2, I2, L2, R2) ∧ Ev L xs 4 34 100 [l0, l1] (v.toList ++ []) (n2, I2, L2, R2) r := ev_cS cm_34 [.ref a, .int x, .int y] dX3_readSort_97 rfl rfl rfl (Nat.le_of_ble_eq_true rfl) (rka_lt rfl (by decide)) (Nat.le_of_ble_eq_true rfl)
theorem x34_100 : Ev L xs ρ 34 100 [some (.ref a), l1] st σ r ↔ Ev L xs ρ 34 101 [some (.ref a), l1] (.ref a :: st) σ r := ev_aload_n cm_34 dX3_readSort_100 rfl rfl
theorem x34_101 : Ev L xs ρ 34 101 [l0, l1] (.ref a :: st) (n, I, Lm, Rm) r ↔ (a < n ∧ shp a = (0, 3)) ∧ Ev L xs ρ 34 104 [l0, l1] (rfv (Rm a 2) :: st) (n, I, Lm, Rm) r := ev_gtR cm_34 dX3_readSort_101 rfl rfl
theorem x34_104 : Ev L xs ρ 34 104 [l0, l1] (.ref a :: st) (n, I, Lm, Rm) r ↔ (a < n ∧ shp a = (0, 6)) ∧ Ev L xs ρ 34 107 [l0, l1] (rfv (Rm a 5) :: st) (n, I, Lm, Rm) r := ev_gtR cm_34 dX3_readSort_104 rfl rfl
theorem x34_107 : Ev L xs ρ 34 107 [l0, some (.int x)] st σ r ↔ Ev L xs ρ 34 108 [l0, some (.int x)] (.int x :: st) σ r := ev_iload_n cm_34 dX3_readSort_107 rfl rfl
theorem x34_108 : Ev L xs ρ 34 108 [some (.ref a), l1] st σ r ↔ Ev L xs ρ 34 109 [some (.ref a), l1] (.ref a :: st) σ r := ev_aload_n cm_34 dX3_readSort_108 rfl rfl
theorem x34_109 : Ev L xs ρ 34 109 [l0, l1] st σ r ↔ Ev L xs ρ 34 111 [l0, l1] (.int (6) :: st) σ r := ev_bipush cm_34 dX3_readSort_109 (by decide)
theorem x34_111 : Ev L xs ρ 34 111 [l0, l1] st σ r ↔ Ev L xs ρ 34 112 [l0, l1] (.int (1) :: st) σ r := ev_iconst cm_34 dX3_readSort_111 (by decide)
theorem x34_112 : Ev L xs ρ 34 112 [l0, l1] st σ r ↔ Ev L xs ρ 34 114 [l0, l1] (.int (9) :: st) σ r := ev_bipush cm_34 dX3_readSort_112 (by decide)
theorem x34_114 : Ev L xs 4 34 114 [l0, l1] (.int x3 :: .int z :: .int y :: .ref b :: .int x :: .ref a :: []) (n, I, Lm, Rm) r ↔ (b < n ∧ shp b = (0, 3)) ∧ ∃ v n2 I2 L2 R2, Em L xs 25 [.ref b, .int y, .int z, .int x3] (n, I, Lm, Rm) (v, n2, I2, L2, R2) ∧ Ev L xs 4 34 117 [l0, l1] (v.toList ++ (.int x :: .ref a :: [])) (n2, I2, L2, R2) r := ev_cV cm_34 [.int y, .int z, .int x3] dX3_readSort_114 rfl rfl rfl rfl (Nat.le_of_ble_eq_true rfl) (rka_lt rfl (by decide)) (Nat.le_of_ble_eq_true rfl)
theorem x34_117 : Ev L xs 4 34 117 [l0, l1] (.int y :: .int x :: .ref a :: []) σ r ↔ ∃ v n2 I2 L2 R2, Em L xs 161 [.ref a, .int x, .int y] σ (v, n2, I2, L2, R2) ∧ Ev L xs 4 34 120 [l0, l1] (v.toList ++ []) (n2, I2, L2, R2) r := ev_cS cm_34 [.ref a, .int x, .int y] dX3_readSort_117 rfl rfl rfl (Nat.le_of_ble_eq_true rfl) (rka_lt rfl (by decide)) (Nat.le_of_ble_eq_true rfl)
theorem x34_120 : Ev L xs ρ 34 120 [some (.ref a), l1] st σ r ↔ Ev L xs ρ 34 121 [some (.ref a), l1] (.ref a :: st) σ r := ev_aload_n cm_34 dX3_readSort_120 rfl rfl
theorem x34_121 : Ev L xs ρ 34 121 [l0, l1] (.ref a :: st) (n, I, Lm, Rm) r ↔ (a < n ∧ shp a = (0, 3)) ∧ Ev L xs ρ 34 124 [l0, l1] (rfv (Rm a 2) :: st) (n, I, Lm, Rm) r := ev_gtR cm_34 dX3_readSort_121 rfl rfl
theorem x34_124 : Ev L xs ρ 34 124 [l0, l1] (.ref a :: st) σ r ↔ Ev L xs ρ 34 125 [l0, l1] (.ref a :: .ref a :: st) σ r := ev_nx (ev_ex cm_34 dX3_readSort_124 rfl rfl)
theorem x34_125 : Ev L xs ρ 34 125 [l0, l1] (.ref a :: st) (n, I, Lm, Rm) r ↔ (a < n ∧ shp a = (0, 6)) ∧ Ev L xs ρ 34 128 [l0, l1] (.int (I a 6) :: st) (n, I, Lm, Rm) r := ev_gtI cm_34 dX3_readSort_125 rfl rfl
theorem x34_128 : Ev L xs ρ 34 128 [l0, l1] st σ r ↔ Ev L xs ρ 34 129 [l0, l1] (.int (1) :: st) σ r := ev_iconst cm_34 dX3_readSort_128 (by decide)
theorem x34_129 : Ev L xs ρ 34 129 [l0, l1] (.int y :: .int x :: st) σ r ↔ Ev L xs ρ 34 130 [l0, l1] (.int (x + y) :: st) σ r := ev_nx (ev_ex cm_34 dX3_readSort_129 rfl rfl)
theorem x34_130 : Ev L xs ρ 34 130 [l0, l1] (.int x :: .ref a :: st) (n, I, Lm, Rm) r ↔ (a < n ∧ shp a = (0, 6)) ∧ Ev L xs ρ 34 133 [l0, l1] st (n, up2 I a 6 x, Lm, Rm) r := ev_ptI cm_34 dX3_readSort_130 rfl rfl (Or.inl rfl)
theorem x34_133 : Ev L xs ρ 34 133 [l0, l1] [] σ r ↔ r = (none, σ) := ev_retv cm_34 dX3_readSort_133 rfl
theorem cm_35 : mcd 35 = cX3_readHat := rfl
theorem em_35 : Em L xs 35 [.ref a] σ r ↔ Ev L xs 4 35 0 [some (.ref a), none, none] [] σ r := Iff.rfl
theorem x35_0 : Ev L xs ρ 35 0 [some (.ref a), l1, l2] st σ r ↔ Ev L xs ρ 35 1 [some (.ref a), l1, l2] (.ref a :: st) σ r := ev_aload_n cm_35 dX3_readHat_0 rfl rfl
theorem x35_1 : Ev L xs ρ 35 1 [l0, l1, l2] (.ref a :: st) (n, I, Lm, Rm) r ↔ (a < n ∧ shp a = (0, 3)) ∧ Ev L xs ρ 35 4 [l0, l1, l2] (rfv (Rm a 3) :: st) (n, I, Lm, Rm) r := ev_gtR cm_35 dX3_readHat_1 rfl rfl
theorem x35_4 : Ev L xs ρ 35 4 [l0, l1, l2] (.ref a :: st) (n, I, Lm, Rm) r ↔ (a < n ∧ shp a = (0, 1)) ∧ Ev L xs ρ 35 7 [l0, l1, l2] (.int (I a 5) :: st) (n, I, Lm, Rm) r := ev_gtI cm_35 dX3_readHat_4 rfl rfl
theorem x35_7 : Ev L xs ρ 35 7 [l0, l1, l2] (.int x :: st) σ r ↔ Ev L xs ρ 35 8 [l0, some (.int x), l2] st σ r := ev_istore_n cm_35 dX3_readHat_7 rfl (Nat.le_of_ble_eq_true rfl)
theorem x35_8 : Ev L xs ρ 35 8 [some (.ref a), l1, l2] st σ r ↔ Ev L xs ρ 35 9 [some (.ref a), l1, l2] (.ref a :: st) σ r := ev_aload_n cm_35 dX3_readHat_8 rfl rfl
theorem x35_9 : Ev L xs ρ 35 9 [l0, l1, l2] (.ref a :: st) (n, I, Lm, Rm) r ↔ (a < n ∧ shp a = (0, 3)) ∧ Ev L xs ρ 35 12 [l0, l1, l2] (rfv (Rm a 3) :: st) (n, I, Lm, Rm) r := ev_gtR cm_35 dX3_readHat_9 rfl rfl
theorem x35_12 : Ev L xs ρ 35 12 [l0, l1, l2] (.ref a :: st) (n, I, Lm, Rm) r ↔ (a < n ∧ shp a = (0, 1)) ∧ Ev L xs ρ 35 15 [l0, l1, l2] (rfv (Rm a 0) :: st) (n, I, Lm, Rm) r := ev_gtR cm_35 dX3_readHat_12 rfl rfl
theorem x35_15 : Ev L xs ρ 35 15 [l0, some (.int x), l2] st σ r ↔ Ev L xs ρ 35 16 [l0, some (.int x), l2] (.int x :: st) σ r := ev_iload_n cm_35 dX3_readHat_15 rfl rfl
theorem x35_16 : Ev L xs ρ 35 16 [some (.ref a), l1, l2] st σ r ↔ Ev L xs ρ 35 17 [some (.ref a), l1, l2] (.ref a :: st) σ r := ev_aload_n cm_35 dX3_readHat_16 rfl rfl
theorem x35_17 : Ev L xs 4 35 17 [l0, l1, l2] (.ref b :: .int x :: .ref a :: []) (n, I, Lm, Rm) r ↔ (b < n ∧ shp b = (0, 3)) ∧ ∃ v n2 I2 L2 R2, Em L xs 27 [.ref b] (n, I, Lm, Rm) (v, n2, I2, L2, R2) ∧ Ev L xs 4 35 20 [l0, l1, l2] (v.toList ++ (.int x :: .ref a :: [])) (n2, I2, L2, R2) r := ev_cV cm_35 [] dX3_readHat_17 rfl rfl rfl rfl (Nat.le_of_ble_eq_true rfl) (rka_lt rfl (by decide)) (Nat.le_of_ble_eq_true rfl)
theorem x35_20 : Ev L xs 4 35 20 [l0, l1, l2] (.int y :: .int x :: .ref a :: []) σ r ↔ ∃ v n2 I2 L2 R2, Em L xs 161 [.ref a, .int x, .int y] σ (v, n2, I2, L2, R2) ∧ Ev L xs 4 35 23 [l0, l1, l2] (v.toList ++ []) (n2, I2, L2, R2) r := ev_cS cm_35 [.ref a, .int x, .int y] dX3_readHat_20 rfl rfl rfl (Nat.le_of_ble_eq_true rfl) (rka_lt rfl (by decide)) (Nat.le_of_ble_eq_true rfl)
theorem x35_23 : Ev L xs ρ 35 23 [some (.ref a), l1, l2] st σ r ↔ Ev L xs ρ 35 24 [some (.ref a), l1, l2] (.ref a :: st) σ r := ev_aload_n cm_35 dX3_readHat_23 rfl rfl
theorem x35_24 : Ev L xs ρ 35 24 [l0, l1, l2] (.ref a :: st) (n, I, Lm, Rm) r ↔ (a < n ∧ shp a = (0, 3)) ∧ Ev L xs ρ 35 27 [l0, l1, l2] (rfv (Rm a 3) :: st) (n, I, Lm, Rm) r := ev_gtR cm_35 dX3_readHat_24 rfl rfl
theorem x35_27 : Ev L xs ρ 35 27 [l0, l1, l2] (.ref a :: st) (n, I, Lm, Rm) r ↔ (a < n ∧ shp a = (0, 1)) ∧ Ev L xs ρ 35 30 [l0, l1, l2] (rfv (Rm a 1) :: st) (n, I, Lm, Rm) r := ev_gtR cm_35 dX3_readHat_27 rfl rfl
theorem x35_30 : Ev L xs ρ 35 30 [l0, some (.int x), l2] st σ r ↔ Ev L xs ρ 35 31 [l0, some (.int x), l2] (.int x :: st) σ r := ev_iload_n cm_35 dX3_readHat_30 rfl rfl
theorem x35_31 : Ev L xs ρ 35 31 [some (.ref a), l1, l2] st σ r ↔ Ev L xs ρ 35 32 [some (.ref a), l1, l2] (.ref a :: st) σ r := ev_aload_n cm_35 dX3_readHat_31 rfl rfl
theorem x35_32 : Ev L xs ρ 35 32 [l0, l1, l2] st σ r ↔ Ev L xs ρ 35 34 [l0, l1, l2] (.int (8) :: st) σ r := ev_bipush cm_35 dX3_readHat_32 (by decide)
theorem x35_34 : Ev L xs ρ 35 34 [l0, l1, l2] st σ r ↔ Ev L xs ρ 35 35 [l0, l1, l2] (.int (0) :: st) σ r := ev_iconst cm_35 dX3_readHat_34 (by decide)
theorem x35_35 : Ev L xs ρ 35 35 [l0, l1, l2] st σ r ↔ Ev L xs ρ 35 37 [l0, l1, l2] (.int (100) :: st) σ r := ev_bipush cm_35 dX3_readHat_35 (by decide)
theorem x35_37 : Ev L xs 4 35 37 [l0, l1, l2] (.int x3 :: .int z :: .int y :: .ref b :: .int x :: .ref a :: []) (n, I, Lm, Rm) r ↔ (b < n ∧ shp b = (0, 3)) ∧ ∃ v n2 I2 L2 R2, Em L xs 25 [.ref b, .int y, .int z, .int x3] (n, I, Lm, Rm) (v, n2, I2, L2, R2) ∧ Ev L xs 4 35 40 [l0, l1, l2] (v.toList ++ (.int x :: .ref a :: [])) (n2, I2, L2, R2) r := ev_cV cm_35 [.int y, .int z, .int x3] dX3_readHat_37 rfl rfl rfl rfl (Nat.le_of_ble_eq_true rfl) (rka_lt rfl (by decide)) (Nat.le_of_ble_eq_true rfl)
theorem x35_40 : Ev L xs 4 35 40 [l0, l1, l2] (.int y :: .int x :: .ref a :: []) σ r ↔ ∃ v n2 I2 L2 R2, Em L xs 161 [.ref a, .int x, .int y] σ (v, n2, I2, L2, R2) ∧ Ev L xs 4 35 43 [l0, l1, l2] (v.toList ++ []) (n2, I2, L2, R2) r := ev_cS cm_35 [.ref a, .int x, .int y] dX3_readHat_40 rfl rfl rfl (Nat.le_of_ble_eq_true rfl) (rka_lt rfl (by decide)) (Nat.le_of_ble_eq_true rfl)
theorem x35_43 : Ev L xs ρ 35 43 [some (.ref a), l1, l2] st σ r ↔ Ev L xs ρ 35 44 [some (.ref a), l1, l2] (.ref a :: st) σ r := ev_aload_n cm_35 dX3_readHat_43 rfl rfl
theorem x35_44 : Ev L xs ρ 35 44 [l0, l1, l2] (.ref a :: st) (n, I, Lm, Rm) r ↔ (a < n ∧ shp a = (0, 3)) ∧ Ev L xs ρ 35 47 [l0, l1, l2] (rfv (Rm a 3) :: st) (n, I, Lm, Rm) r := ev_gtR cm_35 dX3_readHat_44 rfl rfl
theorem x35_47 : Ev L xs ρ 35 47 [l0, l1, l2] (.ref a :: st) (n, I, Lm, Rm) r ↔ (a < n ∧ shp a = (0, 1)) ∧ Ev L xs ρ 35 50 [l0, l1, l2] (rfv (Rm a 2) :: st) (n, I, Lm, Rm) r := ev_gtR cm_35 dX3_readHat_47 rfl rfl
theorem x35_50 : Ev L xs ρ 35 50 [l0, some (.int x), l2] st σ r ↔ Ev L xs ρ 35 51 [l0, some (.int x), l2] (.int x :: st) σ r := ev_iload_n cm_35 dX3_readHat_50 rfl rfl
theorem x35_51 : Ev L xs ρ 35 51 [some (.ref a), l1, l2] st σ r ↔ Ev L xs ρ 35 52 [some (.ref a), l1, l2] (.ref a :: st) σ r := ev_aload_n cm_35 dX3_readHat_51 rfl rfl
theorem x35_52 : Ev L xs ρ 35 52 [l0, l1, l2] st σ r ↔ Ev L xs ρ 35 54 [l0, l1, l2] (.int (9) :: st) σ r := ev_bipush cm_35 dX3_readHat_52 (by decide)
theorem x35_54 : Ev L xs ρ 35 54 [l0, l1, l2] st σ r ↔ Ev L xs ρ 35 55 [l0, l1, l2] (.int (0) :: st) σ r := ev_iconst cm_35 dX3_readHat_54 (by decide)
theorem x35_55 : Ev L xs ρ 35 55 [l0, l1, l2] st σ r ↔ Ev L xs ρ 35 57 [l0, l1, l2] (.int (60) :: st) σ r := ev_bipush cm_35 dX3_readHat_55 (by decide)
theorem x35_57 : Ev L xs 4 35 57 [l0, l1, l2] (.int x3 :: .int z :: .int y :: .ref b :: .int x :: .ref a :: []) (n, I, Lm, Rm) r ↔ (b < n ∧ shp b = (0, 3)) ∧ ∃ v n2 I2 L2 R2, Em L xs 25 [.ref b, .int y, .int z, .int x3] (n, I, Lm, Rm) (v, n2, I2, L2, R2) ∧ Ev L xs 4 35 60 [l0, l1, l2] (v.toList ++ (.int x :: .ref a :: [])) (n2, I2, L2, R2) r := ev_cV cm_35 [.int y, .int z, .int x3] dX3_readHat_57 rfl rfl rfl rfl (Nat.le_of_ble_eq_true rfl) (rka_lt rfl (by decide)) (Nat.le_of_ble_eq_true rfl)
theorem x35_60 : Ev L xs 4 35 60 [l0, l1, l2] (.int y :: .int x :: .ref a :: []) σ r ↔ ∃ v n2 I2 L2 R2, Em L xs 161 [.ref a, .int x, .int y] σ (v, n2, I2, L2, R2) ∧ Ev L xs 4 35 63 [l0, l1, l2] (v.toList ++ []) (n2, I2, L2, R2) r := ev_cS cm_35 [.ref a, .int x, .int y] dX3_readHat_60 rfl rfl rfl (Nat.le_of_ble_eq_true rfl) (rka_lt rfl (by decide)) (Nat.le_of_ble_eq_true rfl)
theorem x35_63 : Ev L xs ρ 35 63 [some (.ref a), l1, l2] st σ r ↔ Ev L xs ρ 35 64 [some (.ref a), l1, l2] (.ref a :: st) σ r := ev_aload_n cm_35 dX3_readHat_63 rfl rfl
theorem x35_64 : Ev L xs ρ 35 64 [l0, l1, l2] (.ref a :: st) (n, I, Lm, Rm) r ↔ (a < n ∧ shp a = (0, 3)) ∧ Ev L xs ρ 35 67 [l0, l1, l2] (rfv (Rm a 3) :: st) (n, I, Lm, Rm) r := ev_gtR cm_35 dX3_readHat_64 rfl rfl
theorem x35_67 : Ev L xs ρ 35 67 [l0, l1, l2] (.ref a :: st) (n, I, Lm, Rm) r ↔ (a < n ∧ shp a = (0, 1)) ∧ Ev L xs ρ 35 70 [l0, l1, l2] (rfv (Rm a 3) :: st) (n, I, Lm, Rm) r := ev_gtR cm_35 dX3_readHat_67 rfl rfl
theorem x35_70 : Ev L xs ρ 35 70 [l0, some (.int x), l2] st σ r ↔ Ev L xs ρ 35 71 [l0, some (.int x), l2] (.int x :: st) σ r := ev_iload_n cm_35 dX3_readHat_70 rfl rfl
theorem x35_71 : Ev L xs ρ 35 71 [some (.ref a), l1, l2] st σ r ↔ Ev L xs ρ 35 72 [some (.ref a), l1, l2] (.ref a :: st) σ r := ev_aload_n cm_35 dX3_readHat_71 rfl rfl
theorem x35_72 : Ev L xs ρ 35 72 [l0, l1, l2] st σ r ↔ Ev L xs ρ 35 74 [l0, l1, l2] (.int (10) :: st) σ r := ev_bipush cm_35 dX3_readHat_72 (by decide)
theorem x35_74 : Ev L xs ρ 35 74 [l0, l1, l2] st σ r ↔ Ev L xs ρ 35 75 [l0, l1, l2] (.int (0) :: st) σ r := ev_iconst cm_35 dX3_readHat_74 (by decide)
theorem x35_75 : Ev L xs ρ 35 75 [l0, l1, l2] st σ r ↔ Ev L xs ρ 35 77 [l0, l1, l2] (.int (100) :: st) σ r := ev_bipush cm_35 dX3_readHat_75 (by decide)
theorem x35_77 : Ev L xs 4 35 77 [l0, l1, l2] (.int x3 :: .int z :: .int y :: .ref b :: .int x :: .ref a :: []) (n, I, Lm, Rm) r ↔ (b < n ∧ shp b = (0, 3)) ∧ ∃ v n2 I2 L2 R2, Em L xs 25 [.ref b, .int y, .int z, .int x3] (n, I, Lm, Rm) (v, n2, I2, L2, R2) ∧ Ev L xs 4 35 80 [l0, l1, l2] (v.toList ++ (.int x :: .ref a :: [])) (n2, I2, L2, R2) r := ev_cV cm_35 [.int y, .int z, .int x3] dX3_readHat_77 rfl rfl rfl rfl (Nat.le_of_ble_eq_true rfl) (rka_lt rfl (by decide)) (Nat.le_of_ble_eq_true rfl)
theorem x35_80 : Ev L xs 4 35 80 [l0, l1, l2] (.int y :: .int x :: .ref a :: []) σ r ↔ ∃ v n2 I2 L2 R2, Em L xs 161 [.ref a, .int x, .int y] σ (v, n2, I2, L2, R2) ∧ Ev L xs 4 35 83 [l0, l1, l2] (v.toList ++ []) (n2, I2, L2, R2) r := ev_cS cm_35 [.ref a, .int x, .int y] dX3_readHat_80 rfl rfl rfl (Nat.le_of_ble_eq_true rfl) (rka_lt rfl (by decide)) (Nat.le_of_ble_eq_true rfl)
theorem x35_83 : Ev L xs ρ 35 83 [some (.ref a), l1, l2] st σ r ↔ Ev L xs ρ 35 84 [some (.ref a), l1, l2] (.ref a :: st) σ r := ev_aload_n cm_35 dX3_readHat_83 rfl rfl
theorem x35_84 : Ev L xs 4 35 84 [l0, l1, l2] (.ref a :: []) (n, I, Lm, Rm) r ↔ (a < n ∧ shp a = (0, 3)) ∧ ∃ v n2 I2 L2 R2, Em L xs 20 [.ref a] (n, I, Lm, Rm) (v, n2, I2, L2, R2) ∧ Ev L xs 4 35 87 [l0, l1, l2] (v.toList ++ []) (n2, I2, L2, R2) r := ev_cV cm_35 [] dX3_readHat_84 rfl rfl rfl rfl (Nat.le_of_ble_eq_true rfl) (rka_lt rfl (by decide)) (Nat.le_of_ble_eq_true rfl)
theorem x35_87 : Ev L xs ρ 35 87 [l0, l1, l2] st σ r ↔ Ev L xs ρ 35 89 [l0, l1, l2] (.int (11) :: st) σ r := ev_bipush cm_35 dX3_readHat_87 (by decide)
theorem x35_89 : Ev L xs ρ 35 89 [l0, l1, l2] (.int y :: .int x :: st) σ r ↔ Ev L xs ρ 35 90 [l0, l1, l2] (.int (x - y) :: st) σ r := ev_nx (ev_ex cm_35 dX3_readHat_89 rfl rfl)
theorem x35_90 : Ev L xs ρ 35 90 [l0, l1, l2] (.int x :: st) σ r ↔ Ev L xs ρ 35 91 [l0, l1, some (.int x)] st σ r := ev_istore_n cm_35 dX3_readHat_90 rfl (Nat.le_of_ble_eq_true rfl)
theorem x35_91 : Ev L xs ρ 35 91 [l0, l1, some (.int x)] st σ r ↔ Ev L xs ρ 35 92 [l0, l1, some (.int x)] (.int x :: st) σ r := ev_iload_n cm_35 dX3_readHat_91 rfl rfl
theorem x35_92 : Ev L xs ρ 35 92 [l0, l1, l2] (.int x :: st) σ r ↔ if x < 0 then Ev L xs ρ 35 100 [l0, l1, l2] st σ r else Ev L xs ρ 35 95 [l0, l1, l2] st σ r := ev_iflt cm_35 dX3_readHat_92 (by decide)
theorem x35_95 : Ev L xs ρ 35 95 [l0, l1, some (.int x)] st σ r ↔ Ev L xs ρ 35 96 [l0, l1, some (.int x)] (.int x :: st) σ r := ev_iload_n cm_35 dX3_readHat_95 rfl rfl
theorem x35_96 : Ev L xs ρ 35 96 [l0, l1, l2] st σ r ↔ Ev L xs ρ 35 97 [l0, l1, l2] (.int (3) :: st) σ r := ev_iconst cm_35 dX3_readHat_96 (by decide)
theorem x35_97 : Ev L xs ρ 35 97 [l0, l1, l2] (.int y :: .int x :: st) σ r ↔ if x ≤ y then Ev L xs ρ 35 106 [l0, l1, l2] st σ r else Ev L xs ρ 35 100 [l0, l1, l2] st σ r := ev_icle cm_35 dX3_readHat_97 (by decide)
theorem x35_100 : Ev L xs ρ 35 100 [some (.ref a), l1, l2] st σ r ↔ Ev L xs ρ 35 101 [some (.ref a), l1, l2] (.ref a :: st) σ r := ev_aload_n cm_35 dX3_readHat_100 rfl rfl
theorem x35_101 : Ev L xs ρ 35 101 [l0, l1, l2] st σ r ↔ Ev L xs ρ 35 102 [l0, l1, l2] (.int (1) :: st) σ r := ev_iconst cm_35 dX3_readHat_101 (by decide)
theorem x35_102 : Ev L xs ρ 35 102 [l0, l1, l2] st σ r ↔ Ev L xs ρ 35 103 [l0, l1, l2] (.int (0) :: st) σ r := ev_iconst cm_35 dX3_readHat_102 (by decide)
theorem x35_103 : Ev L xs 4 35 103 [l0, l1, l2] (.int y :: .int x :: .ref a :: []) (n, I, Lm, Rm) r ↔ (a < n ∧ shp a = (0, 3)) ∧ ∃ v n2 I2 L2 R2, Em L xs 21 [.ref a, .int x, .int y] (n, I, Lm, Rm) (v, n2, I2, L2, R2) ∧ Ev L xs 4 35 106 [l0, l1, l2] (v.toList ++ []) (n2, I2, L2, R2) r := ev_cV cm_35 [.int x, .int y] dX3_readHat_103 rfl rfl rfl rfl (Nat.le_of_ble_eq_true rfl) (rka_lt rfl (by decide)) (Nat.le_of_ble_eq_true rfl)
theorem x35_106 : Ev L xs ρ 35 106 [some (.ref a), l1, l2] st σ r ↔ Ev L xs ρ 35 107 [some (.ref a), l1, l2] (.ref a :: st) σ r := ev_aload_n cm_35 dX3_readHat_106 rfl rfl
theorem x35_107 : Ev L xs ρ 35 107 [l0, l1, l2] (.ref a :: st) σ r ↔ Ev L xs ρ 35 108 [l0, l1, l2] (.ref a :: .ref a :: st) σ r := ev_nx (ev_ex cm_35 dX3_readHat_107 rfl rfl)
theorem x35_108 : Ev L xs ρ 35 108 [l0, l1, l2] (.ref a :: st) (n, I, Lm, Rm) r ↔ (a < n ∧ shp a = (0, 3)) ∧ Ev L xs ρ 35 111 [l0, l1, l2] (.int (I a 6) :: st) (n, I, Lm, Rm) r := ev_gtI cm_35 dX3_readHat_108 rfl rfl
theorem x35_111 : Ev L xs ρ 35 111 [l0, l1, l2] st σ r ↔ Ev L xs ρ 35 112 [l0, l1, l2] (.int (1) :: st) σ r := ev_iconst cm_35 dX3_readHat_111 (by decide)
theorem x35_112 : Ev L xs ρ 35 112 [l0, l1, l2] (.int y :: .int x :: st) σ r ↔ Ev L xs ρ 35 113 [l0, l1, l2] (.int (x + y) :: st) σ r := ev_nx (ev_ex cm_35 dX3_readHat_112 rfl rfl)
theorem x35_113 : Ev L xs ρ 35 113 [l0, l1, l2] (.int x :: .ref a :: st) (n, I, Lm, Rm) r ↔ (a < n ∧ shp a = (0, 3)) ∧ Ev L xs ρ 35 116 [l0, l1, l2] st (n, up2 I a 6 x, Lm, Rm) r := ev_ptI cm_35 dX3_readHat_113 rfl rfl (Or.inl rfl)
theorem x35_116 : Ev L xs ρ 35 116 [some (.ref a), l1, l2] st σ r ↔ Ev L xs ρ 35 117 [some (.ref a), l1, l2] (.ref a :: st) σ r := ev_aload_n cm_35 dX3_readHat_116 rfl rfl
theorem x35_117 : Ev L xs ρ 35 117 [l0, l1, l2] (.ref a :: st) (n, I, Lm, Rm) r ↔ (a < n ∧ shp a = (0, 3)) ∧ Ev L xs ρ 35 120 [l0, l1, l2] (rfv (Rm a 3) :: st) (n, I, Lm, Rm) r := ev_gtR cm_35 dX3_readHat_117 rfl rfl
theorem x35_120 : Ev L xs ρ 35 120 [l0, l1, l2] (.ref a :: st) (n, I, Lm, Rm) r ↔ (a < n ∧ shp a = (0, 1)) ∧ Ev L xs ρ 35 123 [l0, l1, l2] (rfv (Rm a 4) :: st) (n, I, Lm, Rm) r := ev_gtR cm_35 dX3_readHat_120 rfl rfl
theorem x35_123 : Ev L xs ρ 35 123 [l0, some (.int x), l2] st σ r ↔ Ev L xs ρ 35 124 [l0, some (.int x), l2] (.int x :: st) σ r := ev_iload_n cm_35 dX3_readHat_123 rfl rfl
theorem x35_124 : Ev L xs ρ 35 124 [l0, l1, some (.int x)] st σ r ↔ Ev L xs ρ 35 125 [l0, l1, some (.int x)] (.int x :: st) σ r := ev_iload_n cm_35 dX3_readHat_124 rfl rfl
theorem x35_125 : Ev L xs 4 35 125 [l0, l1, l2] (.int y :: .int x :: .ref a :: []) σ r ↔ ∃ v n2 I2 L2 R2, Em L xs 161 [.ref a, .int x, .int y] σ (v, n2, I2, L2, R2) ∧ Ev L xs 4 35 128 [l0, l1, l2] (v.toList ++ []) (n2, I2, L2, R2) r := ev_cS cm_35 [.ref a, .int x, .int y] dX3_readHat_125 rfl rfl rfl (Nat.le_of_ble_eq_true rfl) (rka_lt rfl (by decide)) (Nat.le_of_ble_eq_true rfl)
theorem x35_128 : Ev L xs ρ 35 128 [some (.ref a), l1, l2] st σ r ↔ Ev L xs ρ 35 129 [some (.ref a), l1, l2] (.ref a :: st) σ r := ev_aload_n cm_35 dX3_readHat_128 rfl rfl
theorem x35_129 : Ev L xs ρ 35 129 [l0, l1, l2] (.ref a :: st) (n, I, Lm, Rm) r ↔ (a < n ∧ shp a = (0, 3)) ∧ Ev L xs ρ 35 132 [l0, l1, l2] (rfv (Rm a 3) :: st) (n, I, Lm, Rm) r := ev_gtR cm_35 dX3_readHat_129 rfl rfl
theorem x35_132 : Ev L xs ρ 35 132 [l0, l1, l2] (.ref a :: st) σ r ↔ Ev L xs ρ 35 133 [l0, l1, l2] (.ref a :: .ref a :: st) σ r := ev_nx (ev_ex cm_35 dX3_readHat_132 rfl rfl)
theorem x35_133 : Ev L xs ρ 35 133 [l0, l1, l2] (.ref a :: st) (n, I, Lm, Rm) r ↔ (a < n ∧ shp a = (0, 1)) ∧ Ev L xs ρ 35 136 [l0, l1, l2] (.int (I a 5) :: st) (n, I, Lm, Rm) r := ev_gtI cm_35 dX3_readHat_133 rfl rfl
theorem x35_136 : Ev L xs ρ 35 136 [l0, l1, l2] st σ r ↔ Ev L xs ρ 35 137 [l0, l1, l2] (.int (1) :: st) σ r := ev_iconst cm_35 dX3_readHat_136 (by decide)
theorem x35_137 : Ev L xs ρ 35 137 [l0, l1, l2] (.int y :: .int x :: st) σ r ↔ Ev L xs ρ 35 138 [l0, l1, l2] (.int (x + y) :: st) σ r := ev_nx (ev_ex cm_35 dX3_readHat_137 rfl rfl)
theorem x35_138 : Ev L xs ρ 35 138 [l0, l1, l2] (.int x :: .ref a :: st) (n, I, Lm, Rm) r ↔ (a < n ∧ shp a = (0, 1)) ∧ Ev L xs ρ 35 141 [l0, l1, l2] st (n, up2 I a 5 x, Lm, Rm) r := ev_ptI cm_35 dX3_readHat_138 rfl rfl (Or.inl rfl)
theorem x35_141 : Ev L xs ρ 35 141 [l0, l1, l2] [] σ r ↔ r = (none, σ) := ev_retv cm_35 dX3_readHat_141 rfl
theorem cm_36 : mcd 36 = cX3_readPerson := rfl
theorem em_36 : Em L xs 36 [.ref a] σ r ↔ Ev L xs 4 36 0 [some (.ref a), none] [] σ r := Iff.rfl
theorem x36_0 : Ev L xs ρ 36 0 [some (.ref a), l1] st σ r ↔ Ev L xs ρ 36 1 [some (.ref a), l1] (.ref a :: st) σ r := ev_aload_n cm_36 dX3_readPerson_0 rfl rfl
theorem x36_1 : Ev L xs ρ 36 1 [l0, l1] (.ref a :: st) (n, I, Lm, Rm) r ↔ (a < n ∧ shp a = (0, 3)) ∧ Ev L xs ρ 36 4 [l0, l1] (rfv (Rm a 4) :: st) (n, I, Lm, Rm) r := ev_gtR cm_36 dX3_readPerson_1 rfl rfl
theorem x36_4 : Ev L xs ρ 36 4 [l0, l1] (.ref a :: st) (n, I, Lm, Rm) r ↔ (a < n ∧ shp a = (0, 2)) ∧ Ev L xs ρ 36 7 [l0, l1] (.int (I a 8) :: st) (n, I, Lm, Rm) r := ev_gtI cm_36 dX3_readPerson_4 rfl rfl
theorem x36_7 : Ev L xs ρ 36 7 [l0, l1] (.int x :: st) σ r ↔ Ev L xs ρ 36 8 [l0, some (.int x)] st σ r := ev_istore_n cm_36 dX3_readPerson_7 rfl (Nat.le_of_ble_eq_true rfl)
theorem x36_8 : Ev L xs ρ 36 8 [some (.ref a), l1] st σ r ↔ Ev L xs ρ 36 9 [some (.ref a), l1] (.ref a :: st) σ r := ev_aload_n cm_36 dX3_readPerson_8 rfl rfl
theorem x36_9 : Ev L xs ρ 36 9 [l0, l1] (.ref a :: st) (n, I, Lm, Rm) r ↔ (a < n ∧ shp a = (0, 3)) ∧ Ev L xs ρ 36 12 [l0, l1] (rfv (Rm a 4) :: st) (n, I, Lm, Rm) r := ev_gtR cm_36 dX3_readPerson_9 rfl rfl
theorem x36_12 : Ev L xs ρ 36 12 [l0, l1] (.ref a :: st) (n, I, Lm, Rm) r ↔ (a < n ∧ shp a = (0, 2)) ∧ Ev L xs ρ 36 15 [l0, l1] (rfv (Rm a 0) :: st) (n, I, Lm, Rm) r := ev_gtR cm_36 dX3_readPerson_12 rfl rfl
theorem x36_15 : Ev L xs ρ 36 15 [l0, some (.int x)] st σ r ↔ Ev L xs ρ 36 16 [l0, some (.int x)] (.int x :: st) σ r := ev_iload_n cm_36 dX3_readPerson_15 rfl rfl
theorem x36_16 : Ev L xs ρ 36 16 [some (.ref a), l1] st σ r ↔ Ev L xs ρ 36 17 [some (.ref a), l1] (.ref a :: st) σ r := ev_aload_n cm_36 dX3_readPerson_16 rfl rfl
theorem x36_17 : Ev L xs 4 36 17 [l0, l1] (.ref b :: .int x :: .ref a :: []) (n, I, Lm, Rm) r ↔ (b < n ∧ shp b = (0, 3)) ∧ ∃ v n2 I2 L2 R2, Em L xs 27 [.ref b] (n, I, Lm, Rm) (v, n2, I2, L2, R2) ∧ Ev L xs 4 36 20 [l0, l1] (v.toList ++ (.int x :: .ref a :: [])) (n2, I2, L2, R2) r := ev_cV cm_36 [] dX3_readPerson_17 rfl rfl rfl rfl (Nat.le_of_ble_eq_true rfl) (rka_lt rfl (by decide)) (Nat.le_of_ble_eq_true rfl)
theorem x36_20 : Ev L xs 4 36 20 [l0, l1] (.int y :: .int x :: .ref a :: []) σ r ↔ ∃ v n2 I2 L2 R2, Em L xs 161 [.ref a, .int x, .int y] σ (v, n2, I2, L2, R2) ∧ Ev L xs 4 36 23 [l0, l1] (v.toList ++ []) (n2, I2, L2, R2) r := ev_cS cm_36 [.ref a, .int x, .int y] dX3_readPerson_20 rfl rfl rfl (Nat.le_of_ble_eq_true rfl) (rka_lt rfl (by decide)) (Nat.le_of_ble_eq_true rfl)
theorem x36_23 : Ev L xs ρ 36 23 [some (.ref a), l1] st σ r ↔ Ev L xs ρ 36 24 [some (.ref a), l1] (.ref a :: st) σ r := ev_aload_n cm_36 dX3_readPerson_23 rfl rfl
theorem x36_24 : Ev L xs ρ 36 24 [l0, l1] st σ r ↔ Ev L xs ρ 36 25 [l0, l1] (.int (1) :: st) σ r := ev_iconst cm_36 dX3_readPerson_24 (by decide)
theorem x36_25 : Ev L xs 4 36 25 [l0, l1] (.int x :: .ref a :: []) (n, I, Lm, Rm) r ↔ (a < n ∧ shp a = (0, 3)) ∧ ∃ v n2 I2 L2 R2, Em L xs 23 [.ref a, .int x] (n, I, Lm, Rm) (v, n2, I2, L2, R2) ∧ Ev L xs 4 36 28 [l0, l1] (v.toList ++ []) (n2, I2, L2, R2) r := ev_cV cm_36 [.int x] dX3_readPerson_25 rfl rfl rfl rfl (Nat.le_of_ble_eq_true rfl) (rka_lt rfl (by decide)) (Nat.le_of_ble_eq_true rfl)
theorem x36_28 : Ev L xs ρ 36 28 [some (.ref a), l1] st σ r ↔ Ev L xs ρ 36 29 [some (.ref a), l1] (.ref a :: st) σ r := ev_aload_n cm_36 dX3_readPerson_28 rfl rfl
theorem x36_29 : Ev L xs ρ 36 29 [l0, l1] (.ref a :: st) (n, I, Lm, Rm) r ↔ (a < n ∧ shp a = (0, 3)) ∧ Ev L xs ρ 36 32 [l0, l1] (rfv (Rm a 4) :: st) (n, I, Lm, Rm) r := ev_gtR cm_36 dX3_readPerson_29 rfl rfl
theorem x36_32 : Ev L xs ρ 36 32 [l0, l1] (.ref a :: st) (n, I, Lm, Rm) r ↔ (a < n ∧ shp a = (0, 2)) ∧ Ev L xs ρ 36 35 [l0, l1] (rfv (Rm a 1) :: st) (n, I, Lm, Rm) r := ev_gtR cm_36 dX3_readPerson_32 rfl rfl
theorem x36_35 : Ev L xs ρ 36 35 [l0, some (.int x)] st σ r ↔ Ev L xs ρ 36 36 [l0, some (.int x)] (.int x :: st) σ r := ev_iload_n cm_36 dX3_readPerson_35 rfl rfl
theorem x36_36 : Ev L xs ρ 36 36 [some (.ref a), l1] st σ r ↔ Ev L xs ρ 36 37 [some (.ref a), l1] (.ref a :: st) σ r := ev_aload_n cm_36 dX3_readPerson_36 rfl rfl
theorem x36_37 : Ev L xs ρ 36 37 [some (.ref a), l1] st σ r ↔ Ev L xs ρ 36 38 [some (.ref a), l1] (.ref a :: st) σ r := ev_aload_n cm_36 dX3_readPerson_37 rfl rfl
theorem x36_38 : Ev L xs ρ 36 38 [l0, l1] (.ref a :: st) (n, I, Lm, Rm) r ↔ (a < n ∧ shp a = (0, 3)) ∧ Ev L xs ρ 36 41 [l0, l1] (rfv (Rm a 2) :: st) (n, I, Lm, Rm) r := ev_gtR cm_36 dX3_readPerson_38 rfl rfl
theorem x36_41 : Ev L xs ρ 36 41 [l0, l1] (.ref a :: st) (n, I, Lm, Rm) r ↔ (a < n ∧ shp a = (0, 6)) ∧ Ev L xs ρ 36 44 [l0, l1] (rfv (Rm a 0) :: st) (n, I, Lm, Rm) r := ev_gtR cm_36 dX3_readPerson_41 rfl rfl
theorem x36_44 : Ev L xs ρ 36 44 [some (.ref a), l1] st σ r ↔ Ev L xs ρ 36 45 [some (.ref a), l1] (.ref a :: st) σ r := ev_aload_n cm_36 dX3_readPerson_44 rfl rfl
theorem x36_45 : Ev L xs ρ 36 45 [l0, l1] (.ref a :: st) (n, I, Lm, Rm) r ↔ (a < n ∧ shp a = (0, 3)) ∧ Ev L xs ρ 36 48 [l0, l1] (rfv (Rm a 2) :: st) (n, I, Lm, Rm) r := ev_gtR cm_36 dX3_readPerson_45 rfl rfl
theorem x36_48 : Ev L xs ρ 36 48 [l0, l1] (.ref a :: st) (n, I, Lm, Rm) r ↔ (a < n ∧ shp a = (0, 6)) ∧ Ev L xs ρ 36 51 [l0, l1] (.int (I a 6) :: st) (n, I, Lm, Rm) r := ev_gtI cm_36 dX3_readPerson_48 rfl rfl
theorem x36_51 : Ev L xs 4 36 51 [l0, l1] (.int y :: .ref c :: .ref b :: .int x :: .ref a :: []) (n, I, Lm, Rm) r ↔ (b < n ∧ shp b = (0, 3)) ∧ ∃ v n2 I2 L2 R2, Em L xs 29 [.ref b, .ref c, .int y] (n, I, Lm, Rm) (v, n2, I2, L2, R2) ∧ Ev L xs 4 36 54 [l0, l1] (v.toList ++ (.int x :: .ref a :: [])) (n2, I2, L2, R2) r := ev_cV cm_36 [.ref c, .int y] dX3_readPerson_51 rfl rfl rfl rfl (Nat.le_of_ble_eq_true rfl) (rka_lt rfl (by decide)) (Nat.le_of_ble_eq_true rfl)
theorem x36_54 : Ev L xs 4 36 54 [l0, l1] (.int y :: .int x :: .ref a :: []) σ r ↔ ∃ v n2 I2 L2 R2, Em L xs 161 [.ref a, .int x, .int y] σ (v, n2, I2, L2, R2) ∧ Ev L xs 4 36 57 [l0, l1] (v.toList ++ []) (n2, I2, L2, R2) r := ev_cS cm_36 [.ref a, .int x, .int y] dX3_readPerson_54 rfl rfl rfl (Nat.le_of_ble_eq_true rfl) (rka_lt rfl (by decide)) (Nat.le_of_ble_eq_true rfl)
theorem x36_57 : Ev L xs ρ 36 57 [some (.ref a), l1] st σ r ↔ Ev L xs ρ 36 58 [some (.ref a), l1] (.ref a :: st) σ r := ev_aload_n cm_36 dX3_readPerson_57 rfl rfl
theorem x36_58 : Ev L xs ρ 36 58 [l0, l1] (.ref a :: st) (n, I, Lm, Rm) r ↔ (a < n ∧ shp a = (0, 3)) ∧ Ev L xs ρ 36 61 [l0, l1] (rfv (Rm a 4) :: st) (n, I, Lm, Rm) r := ev_gtR cm_36 dX3_readPerson_58 rfl rfl
theorem x36_61 : Ev L xs ρ 36 61 [l0, l1] (.ref a :: st) (n, I, Lm, Rm) r ↔ (a < n ∧ shp a = (0, 2)) ∧ Ev L xs ρ 36 64 [l0, l1] (rfv (Rm a 2) :: st) (n, I, Lm, Rm) r := ev_gtR cm_36 dX3_readPerson_61 rfl rfl
theorem x36_64 : Ev L xs ρ 36 64 [l0, some (.int x)] st σ r ↔ Ev L xs ρ 36 65 [l0, some (.int x)] (.int x :: st) σ r := ev_iload_n cm_36 dX3_readPerson_64 rfl rfl
theorem x36_65 : Ev L xs ρ 36 65 [l0, l1] st σ r ↔ Ev L xs ρ 36 66 [l0, l1] (.int (-1) :: st) σ r := ev_iconst cm_36 dX3_readPerson_65 (by decide)
theorem x36_66 : Ev L xs 4 36 66 [l0, l1] (.int y :: .int x :: .ref a :: []) σ r ↔ ∃ v n2 I2 L2 R2, Em L xs 161 [.ref a, .int x, .int y] σ (v, n2, I2, L2, R2) ∧ Ev L xs 4 36 69 [l0, l1] (v.toList ++ []) (n2, I2, L2, R2) r := ev_cS cm_36 [.ref a, .int x, .int y] dX3_readPerson_66 rfl rfl rfl (Nat.le_of_ble_eq_true rfl) (rka_lt rfl (by decide)) (Nat.le_of_ble_eq_true rfl)
theorem x36_69 : Ev L xs ρ 36 69 [some (.ref a), l1] st σ r ↔ Ev L xs ρ 36 70 [some (.ref a), l1] (.ref a :: st) σ r := ev_aload_n cm_36 dX3_readPerson_69 rfl rfl
theorem x36_70 : Ev L xs ρ 36 70 [l0, l1] (.ref a :: st) (n, I, Lm, Rm) r ↔ (a < n ∧ shp a = (0, 3)) ∧ Ev L xs ρ 36 73 [l0, l1] (rfv (Rm a 4) :: st) (n, I, Lm, Rm) r := ev_gtR cm_36 dX3_readPerson_70 rfl rfl
theorem x36_73 : Ev L xs ρ 36 73 [l0, l1] (.ref a :: st) (n, I, Lm, Rm) r ↔ (a < n ∧ shp a = (0, 2)) ∧ Ev L xs ρ 36 76 [l0, l1] (rfv (Rm a 5) :: st) (n, I, Lm, Rm) r := ev_gtR cm_36 dX3_readPerson_73 rfl rfl
theorem x36_76 : Ev L xs ρ 36 76 [l0, some (.int x)] st σ r ↔ Ev L xs ρ 36 77 [l0, some (.int x)] (.int x :: st) σ r := ev_iload_n cm_36 dX3_readPerson_76 rfl rfl
theorem x36_77 : Ev L xs ρ 36 77 [l0, l1] st σ r ↔ Ev L xs ρ 36 78 [l0, l1] (.int (-1) :: st) σ r := ev_iconst cm_36 dX3_readPerson_77 (by decide)
theorem x36_78 : Ev L xs 4 36 78 [l0, l1] (.int y :: .int x :: .ref a :: []) σ r ↔ ∃ v n2 I2 L2 R2, Em L xs 161 [.ref a, .int x, .int y] σ (v, n2, I2, L2, R2) ∧ Ev L xs 4 36 81 [l0, l1] (v.toList ++ []) (n2, I2, L2, R2) r := ev_cS cm_36 [.ref a, .int x, .int y] dX3_readPerson_78 rfl rfl rfl (Nat.le_of_ble_eq_true rfl) (rka_lt rfl (by decide)) (Nat.le_of_ble_eq_true rfl)
theorem x36_81 : Ev L xs ρ 36 81 [some (.ref a), l1] st σ r ↔ Ev L xs ρ 36 82 [some (.ref a), l1] (.ref a :: st) σ r := ev_aload_n cm_36 dX3_readPerson_81 rfl rfl
theorem x36_82 : Ev L xs ρ 36 82 [l0, l1] (.ref a :: st) (n, I, Lm, Rm) r ↔ (a < n ∧ shp a = (0, 3)) ∧ Ev L xs ρ 36 85 [l0, l1] (rfv (Rm a 4) :: st) (n, I, Lm, Rm) r := ev_gtR cm_36 dX3_readPerson_82 rfl rfl
theorem x36_85 : Ev L xs ρ 36 85 [l0, l1] (.ref a :: st) (n, I, Lm, Rm) r ↔ (a < n ∧ shp a = (0, 2)) ∧ Ev L xs ρ 36 88 [l0, l1] (rfv (Rm a 3) :: st) (n, I, Lm, Rm) r := ev_gtR cm_36 dX3_readPerson_85 rfl rfl
theorem x36_88 : Ev L xs ρ 36 88 [l0, some (.int x)] st σ r ↔ Ev L xs ρ 36 89 [l0, some (.int x)] (.int x :: st) σ r := ev_iload_n cm_36 dX3_readPerson_88 rfl rfl
theorem x36_89 : Ev L xs ρ 36 89 [l0, l1] st σ r ↔ Ev L xs ρ 36 90 [l0, l1] (.int (0) :: st) σ r := ev_iconst cm_36 dX3_readPerson_89 (by decide)
theorem x36_90 : Ev L xs 4 36 90 [l0, l1] (.int y :: .int x :: .ref a :: []) σ r ↔ ∃ v n2 I2 L2 R2, Em L xs 161 [.ref a, .int x, .int y] σ (v, n2, I2, L2, R2) ∧ Ev L xs 4 36 93 [l0, l1] (v.toList ++ []) (n2, I2, L2, R2) r := ev_cS cm_36 [.ref a, .int x, .int y] dX3_readPerson_90 rfl rfl rfl (Nat.le_of_ble_eq_true rfl) (rka_lt rfl (by decide)) (Nat.le_of_ble_eq_true rfl)
theorem x36_93 : Ev L xs ρ 36 93 [some (.ref a), l1] st σ r ↔ Ev L xs ρ 36 94 [some (.ref a), l1] (.ref a :: st) σ r := ev_aload_n cm_36 dX3_readPerson_93 rfl rfl
theorem x36_94 : Ev L xs ρ 36 94 [l0, l1] (.ref a :: st) (n, I, Lm, Rm) r ↔ (a < n ∧ shp a = (0, 3)) ∧ Ev L xs ρ 36 97 [l0, l1] (rfv (Rm a 4) :: st) (n, I, Lm, Rm) r := ev_gtR cm_36 dX3_readPerson_94 rfl rfl
theorem x36_97 : Ev L xs ρ 36 97 [l0, l1] (.ref a :: st) σ r ↔ Ev L xs ρ 36 98 [l0, l1] (.ref a :: .ref a :: st) σ r := ev_nx (ev_ex cm_36 dX3_readPerson_97 rfl rfl)
theorem x36_98 : Ev L xs ρ 36 98 [l0, l1] (.ref a :: st) (n, I, Lm, Rm) r ↔ (a < n ∧ shp a = (0, 2)) ∧ Ev L xs ρ 36 101 [l0, l1] (.int (I a 8) :: st) (n, I, Lm, Rm) r := ev_gtI cm_36 dX3_readPerson_98 rfl rfl
theorem x36_101 : Ev L xs ρ 36 101 [l0, l1] st σ r ↔ Ev L xs ρ 36 102 [l0, l1] (.int (1) :: st) σ r := ev_iconst cm_36 dX3_readPerson_101 (by decide)
theorem x36_102 : Ev L xs ρ 36 102 [l0, l1] (.int y :: .int x :: st) σ r ↔ Ev L xs ρ 36 103 [l0, l1] (.int (x + y) :: st) σ r := ev_nx (ev_ex cm_36 dX3_readPerson_102 rfl rfl)
theorem x36_103 : Ev L xs ρ 36 103 [l0, l1] (.int x :: .ref a :: st) (n, I, Lm, Rm) r ↔ (a < n ∧ shp a = (0, 2)) ∧ Ev L xs ρ 36 106 [l0, l1] st (n, up2 I a 8 x, Lm, Rm) r := ev_ptI cm_36 dX3_readPerson_103 rfl rfl (Or.inl rfl)
theorem x36_106 : Ev L xs ρ 36 106 [l0, l1] [] σ r ↔ r = (none, σ) := ev_retv cm_36 dX3_readPerson_106 rfl
theorem cm_37 : mcd 37 = cX3_readIn := rfl
theorem em_37 : Em L xs 37 [.ref a] σ r ↔ Ev L xs 4 37 0 [some (.ref a), none] [] σ r := Iff.rfl
theorem x37_0 : Ev L xs ρ 37 0 [some (.ref a), l1] st σ r ↔ Ev L xs ρ 37 1 [some (.ref a), l1] (.ref a :: st) σ r := ev_aload_n cm_37 dX3_readIn_0 rfl rfl
theorem x37_1 : Ev L xs ρ 37 1 [some (.ref a), l1] st σ r ↔ Ev L xs ρ 37 2 [some (.ref a), l1] (.ref a :: st) σ r := ev_aload_n cm_37 dX3_readIn_1 rfl rfl
theorem x37_2 : Ev L xs ρ 37 2 [l0, l1] (.ref a :: st) (n, I, Lm, Rm) r ↔ (a < n ∧ shp a = (0, 3)) ∧ Ev L xs ρ 37 5 [l0, l1] (rfv (Rm a 4) :: st) (n, I, Lm, Rm) r := ev_gtR cm_37 dX3_readIn_2 rfl rfl
theorem x37_5 : Ev L xs ρ 37 5 [l0, l1] (.ref a :: st) (n, I, Lm, Rm) r ↔ (a < n ∧ shp a = (0, 2)) ∧ Ev L xs ρ 37 8 [l0, l1] (rfv (Rm a 0) :: st) (n, I, Lm, Rm) r := ev_gtR cm_37 dX3_readIn_5 rfl rfl
theorem x37_8 : Ev L xs ρ 37 8 [some (.ref a), l1] st σ r ↔ Ev L xs ρ 37 9 [some (.ref a), l1] (.ref a :: st) σ r := ev_aload_n cm_37 dX3_readIn_8 rfl rfl
theorem x37_9 : Ev L xs ρ 37 9 [l0, l1] (.ref a :: st) (n, I, Lm, Rm) r ↔ (a < n ∧ shp a = (0, 3)) ∧ Ev L xs ρ 37 12 [l0, l1] (rfv (Rm a 4) :: st) (n, I, Lm, Rm) r := ev_gtR cm_37 dX3_readIn_9 rfl rfl
theorem x37_12 : Ev L xs ρ 37 12 [l0, l1] (.ref a :: st) (n, I, Lm, Rm) r ↔ (a < n ∧ shp a = (0, 2)) ∧ Ev L xs ρ 37 15 [l0, l1] (.int (I a 8) :: st) (n, I, Lm, Rm) r := ev_gtI cm_37 dX3_readIn_12 rfl rfl
theorem x37_15 : Ev L xs 4 37 15 [l0, l1] (.int x :: .ref b :: .ref a :: []) (n, I, Lm, Rm) r ↔ (a < n ∧ shp a = (0, 3)) ∧ ∃ v n2 I2 L2 R2, Em L xs 29 [.ref a, .ref b, .int x] (n, I, Lm, Rm) (v, n2, I2, L2, R2) ∧ Ev L xs 4 37 18 [l0, l1] (v.toList ++ []) (n2, I2, L2, R2) r := ev_cV cm_37 [.ref b, .int x] dX3_readIn_15 rfl rfl rfl rfl (Nat.le_of_ble_eq_true rfl) (rka_lt rfl (by decide)) (Nat.le_of_ble_eq_true rfl)
theorem x37_18 : Ev L xs ρ 37 18 [l0, l1] (.int x :: st) σ r ↔ Ev L xs ρ 37 19 [l0, some (.int x)] st σ r := ev_istore_n cm_37 dX3_readIn_18 rfl (Nat.le_of_ble_eq_true rfl)
theorem x37_19 : Ev L xs ρ 37 19 [some (.ref a), l1] st σ r ↔ Ev L xs ρ 37 20 [some (.ref a), l1] (.ref a :: st) σ r := ev_aload_n cm_37 dX3_readIn_19 rfl rfl
theorem x37_20 : Ev L xs ρ 37 20 [l0, l1] (.ref a :: st) (n, I, Lm, Rm) r ↔ (a < n ∧ shp a = (0, 3)) ∧ Ev L xs ρ 37 23 [l0, l1] (rfv (Rm a 4) :: st) (n, I, Lm, Rm) r := ev_gtR cm_37 dX3_readIn_20 rfl rfl
theorem x37_23 : Ev L xs ρ 37 23 [l0, l1] (.ref a :: st) (n, I, Lm, Rm) r ↔ (a < n ∧ shp a = (0, 2)) ∧ Ev L xs ρ 37 26 [l0, l1] (rfv (Rm a 2) :: st) (n, I, Lm, Rm) r := ev_gtR cm_37 dX3_readIn_23 rfl rfl
theorem x37_26 : Ev L xs ρ 37 26 [l0, some (.int x)] st σ r ↔ Ev L xs ρ 37 27 [l0, some (.int x)] (.int x :: st) σ r := ev_iload_n cm_37 dX3_readIn_26 rfl rfl
theorem x37_27 : Ev L xs ρ 37 27 [some (.ref a), l1] st σ r ↔ Ev L xs ρ 37 28 [some (.ref a), l1] (.ref a :: st) σ r := ev_aload_n cm_37 dX3_readIn_27 rfl rfl
theorem x37_28 : Ev L xs ρ 37 28 [some (.ref a), l1] st σ r ↔ Ev L xs ρ 37 29 [some (.ref a), l1] (.ref a :: st) σ r := ev_aload_n cm_37 dX3_readIn_28 rfl rfl
theorem x37_29 : Ev L xs ρ 37 29 [l0, l1] (.ref a :: st) (n, I, Lm, Rm) r ↔ (a < n ∧ shp a = (0, 3)) ∧ Ev L xs ρ 37 32 [l0, l1] (rfv (Rm a 3) :: st) (n, I, Lm, Rm) r := ev_gtR cm_37 dX3_readIn_29 rfl rfl
theorem x37_32 : Ev L xs ρ 37 32 [l0, l1] (.ref a :: st) (n, I, Lm, Rm) r ↔ (a < n ∧ shp a = (0, 1)) ∧ Ev L xs ρ 37 35 [l0, l1] (rfv (Rm a 0) :: st) (n, I, Lm, Rm) r := ev_gtR cm_37 dX3_readIn_32 rfl rfl
theorem x37_35 : Ev L xs ρ 37 35 [some (.ref a), l1] st σ r ↔ Ev L xs ρ 37 36 [some (.ref a), l1] (.ref a :: st) σ r := ev_aload_n cm_37 dX3_readIn_35 rfl rfl
theorem x37_36 : Ev L xs ρ 37 36 [l0, l1] (.ref a :: st) (n, I, Lm, Rm) r ↔ (a < n ∧ shp a = (0, 3)) ∧ Ev L xs ρ 37 39 [l0, l1] (rfv (Rm a 3) :: st) (n, I, Lm, Rm) r := ev_gtR cm_37 dX3_readIn_36 rfl rfl
theorem x37_39 : Ev L xs ρ 37 39 [l0, l1] (.ref a :: st) (n, I, Lm, Rm) r ↔ (a < n ∧ shp a = (0, 1)) ∧ Ev L xs ρ 37 42 [l0, l1] (.int (I a 5) :: st) (n, I, Lm, Rm) r := ev_gtI cm_37 dX3_readIn_39 rfl rfl
theorem x37_42 : Ev L xs 4 37 42 [l0, l1] (.int y :: .ref c :: .ref b :: .int x :: .ref a :: []) (n, I, Lm, Rm) r ↔ (b < n ∧ shp b = (0, 3)) ∧ ∃ v n2 I2 L2 R2, Em L xs 29 [.ref b, .ref c, .int y] (n, I, Lm, Rm) (v, n2, I2, L2, R2) ∧ Ev L xs 4 37 45 [l0, l1] (v.toList ++ (.int x :: .ref a :: [])) (n2, I2, L2, R2) r := ev_cV cm_37 [.ref c, .int y] dX3_readIn_42 rfl rfl rfl rfl (Nat.le_of_ble_eq_true rfl) (rka_lt rfl (by decide)) (Nat.le_of_ble_eq_true rfl)
theorem x37_45 : Ev L xs 4 37 45 [l0, l1] (.int y :: .int x :: .ref a :: []) σ r ↔ ∃ v n2 I2 L2 R2, Em L xs 161 [.ref a, .int x, .int y] σ (v, n2, I2, L2, R2) ∧ Ev L xs 4 37 48 [l0, l1] (v.toList ++ []) (n2, I2, L2, R2) r := ev_cS cm_37 [.ref a, .int x, .int y] dX3_readIn_45 rfl rfl rfl (Nat.le_of_ble_eq_true rfl) (rka_lt rfl (by decide)) (Nat.le_of_ble_eq_true rfl)
theorem x37_48 : Ev L xs ρ 37 48 [l0, l1] [] σ r ↔ r = (none, σ) := ev_retv cm_37 dX3_readIn_48 rfl
theorem cm_38 : mcd 38 = cX3_readPair := rfl
theorem em_38 : Em L xs 38 [.ref a] σ r ↔ Ev L xs 4 38 0 [some (.ref a), none, none] [] σ r := Iff.rfl
theorem x38_0 : Ev L xs ρ 38 0 [some (.ref a), l1, l2] st σ r ↔ Ev L xs ρ 38 1 [some (.ref a), l1, l2] (.ref a :: st) σ r := ev_aload_n cm_38 dX3_readPair_0 rfl rfl
theorem x38_1 : Ev L xs ρ 38 1 [l0, l1, l2] st σ r ↔ Ev L xs ρ 38 2 [l0, l1, l2] (.int (-1) :: st) σ r := ev_iconst cm_38 dX3_readPair_1 (by decide)
theorem x38_2 : Ev L xs 4 38 2 [l0, l1, l2] (.int x :: .ref a :: []) (n, I, Lm, Rm) r ↔ (a < n ∧ shp a = (0, 3)) ∧ ∃ v n2 I2 L2 R2, Em L xs 30 [.ref a, .int x] (n, I, Lm, Rm) (v, n2, I2, L2, R2) ∧ Ev L xs 4 38 5 [l0, l1, l2] (v.toList ++ []) (n2, I2, L2, R2) r := ev_cV cm_38 [.int x] dX3_readPair_2 rfl rfl rfl rfl (Nat.le_of_ble_eq_true rfl) (rka_lt rfl (by decide)) (Nat.le_of_ble_eq_true rfl)
theorem x38_5 : Ev L xs ρ 38 5 [l0, l1, l2] (.int x :: st) σ r ↔ Ev L xs ρ 38 6 [l0, some (.int x), l2] st σ r := ev_istore_n cm_38 dX3_readPair_5 rfl (Nat.le_of_ble_eq_true rfl)
theorem x38_6 : Ev L xs ρ 38 6 [some (.ref a), l1, l2] st σ r ↔ Ev L xs ρ 38 7 [some (.ref a), l1, l2] (.ref a :: st) σ r := ev_aload_n cm_38 dX3_readPair_6 rfl rfl
theorem x38_7 : Ev L xs ρ 38 7 [l0, some (.int x), l2] st σ r ↔ Ev L xs ρ 38 8 [l0, some (.int x), l2] (.int x :: st) σ r := ev_iload_n cm_38 dX3_readPair_7 rfl rfl
theorem x38_8 : Ev L xs 4 38 8 [l0, l1, l2] (.int x :: .ref a :: []) (n, I, Lm, Rm) r ↔ (a < n ∧ shp a = (0, 3)) ∧ ∃ v n2 I2 L2 R2, Em L xs 30 [.ref a, .int x] (n, I, Lm, Rm) (v, n2, I2, L2, R2) ∧ Ev L xs 4 38 11 [l0, l1, l2] (v.toList ++ []) (n2, I2, L2, R2) r := ev_cV cm_38 [.int x] dX3_readPair_8 rfl rfl rfl rfl (Nat.le_of_ble_eq_true rfl) (rka_lt rfl (by decide)) (Nat.le_of_ble_eq_true rfl)
theorem x38_11 : Ev L xs ρ 38 11 [l0, l1, l2] (.int x :: st) σ r ↔ Ev L xs ρ 38 12 [l0, l1, some (.int x)] st σ r := ev_istore_n cm_38 dX3_readPair_11 rfl (Nat.le_of_ble_eq_true rfl)
theorem x38_12 : Ev L xs ρ 38 12 [some (.ref a), l1, l2] st σ r ↔ Ev L xs ρ 38 13 [some (.ref a), l1, l2] (.ref a :: st) σ r := ev_aload_n cm_38 dX3_readPair_12 rfl rfl
theorem x38_13 : Ev L xs ρ 38 13 [l0, l1, l2] (.ref a :: st) (n, I, Lm, Rm) r ↔ (a < n ∧ shp a = (0, 3)) ∧ Ev L xs ρ 38 16 [l0, l1, l2] (rfv (Rm a 4) :: st) (n, I, Lm, Rm) r := ev_gtR cm_38 dX3_readPair_13 rfl rfl
theorem x38_16 : Ev L xs ρ 38 16 [l0, l1, l2] (.ref a :: st) (n, I, Lm, Rm) r ↔ (a < n ∧ shp a = (0, 2)) ∧ Ev L xs ρ 38 19 [l0, l1, l2] (rfv (Rm a 5) :: st) (n, I, Lm, Rm) r := ev_gtR cm_38 dX3_readPair_16 rfl rfl
theorem x38_19 : Ev L xs ρ 38 19 [l0, some (.int x), l2] st σ r ↔ Ev L xs ρ 38 20 [l0, some (.int x), l2] (.int x :: st) σ r := ev_iload_n cm_38 dX3_readPair_19 rfl rfl
theorem x38_20 : Ev L xs ρ 38 20 [l0, l1, some (.int x)] st σ r ↔ Ev L xs ρ 38 21 [l0, l1, some (.int x)] (.int x :: st) σ r := ev_iload_n cm_38 dX3_readPair_20 rfl rfl
theorem x38_21 : Ev L xs 4 38 21 [l0, l1, l2] (.int y :: .int x :: .ref a :: []) σ r ↔ ∃ v n2 I2 L2 R2, Em L xs 161 [.ref a, .int x, .int y] σ (v, n2, I2, L2, R2) ∧ Ev L xs 4 38 24 [l0, l1, l2] (v.toList ++ []) (n2, I2, L2, R2) r := ev_cS cm_38 [.ref a, .int x, .int y] dX3_readPair_21 rfl rfl rfl (Nat.le_of_ble_eq_true rfl) (rka_lt rfl (by decide)) (Nat.le_of_ble_eq_true rfl)
theorem x38_24 : Ev L xs ρ 38 24 [some (.ref a), l1, l2] st σ r ↔ Ev L xs ρ 38 25 [some (.ref a), l1, l2] (.ref a :: st) σ r := ev_aload_n cm_38 dX3_readPair_24 rfl rfl
theorem x38_25 : Ev L xs ρ 38 25 [l0, l1, l2] (.ref a :: st) (n, I, Lm, Rm) r ↔ (a < n ∧ shp a = (0, 3)) ∧ Ev L xs ρ 38 28 [l0, l1, l2] (rfv (Rm a 4) :: st) (n, I, Lm, Rm) r := ev_gtR cm_38 dX3_readPair_25 rfl rfl
theorem x38_28 : Ev L xs ρ 38 28 [l0, l1, l2] (.ref a :: st) (n, I, Lm, Rm) r ↔ (a < n ∧ shp a = (0, 2)) ∧ Ev L xs ρ 38 31 [l0, l1, l2] (rfv (Rm a 5) :: st) (n, I, Lm, Rm) r := ev_gtR cm_38 dX3_readPair_28 rfl rfl
theorem x38_31 : Ev L xs ρ 38 31 [l0, l1, some (.int x)] st σ r ↔ Ev L xs ρ 38 32 [l0, l1, some (.int x)] (.int x :: st) σ r := ev_iload_n cm_38 dX3_readPair_31 rfl rfl
theorem x38_32 : Ev L xs ρ 38 32 [l0, some (.int x), l2] st σ r ↔ Ev L xs ρ 38 33 [l0, some (.int x), l2] (.int x :: st) σ r := ev_iload_n cm_38 dX3_readPair_32 rfl rfl
theorem x38_33 : Ev L xs 4 38 33 [l0, l1, l2] (.int y :: .int x :: .ref a :: []) σ r ↔ ∃ v n2 I2 L2 R2, Em L xs 161 [.ref a, .int x, .int y] σ (v, n2, I2, L2, R2) ∧ Ev L xs 4 38 36 [l0, l1, l2] (v.toList ++ []) (n2, I2, L2, R2) r := ev_cS cm_38 [.ref a, .int x, .int y] dX3_readPair_33 rfl rfl rfl (Nat.le_of_ble_eq_true rfl) (rka_lt rfl (by decide)) (Nat.le_of_ble_eq_true rfl)
theorem x38_36 : Ev L xs ρ 38 36 [some (.ref a), l1, l2] st σ r ↔ Ev L xs ρ 38 37 [some (.ref a), l1, l2] (.ref a :: st) σ r := ev_aload_n cm_38 dX3_readPair_36 rfl rfl
theorem x38_37 : Ev L xs ρ 38 37 [l0, l1, l2] (.ref a :: st) (n, I, Lm, Rm) r ↔ (a < n ∧ shp a = (0, 3)) ∧ Ev L xs ρ 38 40 [l0, l1, l2] (rfv (Rm a 4) :: st) (n, I, Lm, Rm) r := ev_gtR cm_38 dX3_readPair_37 rfl rfl
theorem x38_40 : Ev L xs ρ 38 40 [l0, l1, l2] (.ref a :: st) (n, I, Lm, Rm) r ↔ (a < n ∧ shp a = (0, 2)) ∧ Ev L xs ρ 38 43 [l0, l1, l2] (rfv (Rm a 6) :: st) (n, I, Lm, Rm) r := ev_gtR cm_38 dX3_readPair_40 rfl rfl
theorem x38_43 : Ev L xs ρ 38 43 [some (.ref a), l1, l2] st σ r ↔ Ev L xs ρ 38 44 [some (.ref a), l1, l2] (.ref a :: st) σ r := ev_aload_n cm_38 dX3_readPair_43 rfl rfl
theorem x38_44 : Ev L xs ρ 38 44 [l0, l1, l2] (.ref a :: st) (n, I, Lm, Rm) r ↔ (a < n ∧ shp a = (0, 3)) ∧ Ev L xs ρ 38 47 [l0, l1, l2] (rfv (Rm a 4) :: st) (n, I, Lm, Rm) r := ev_gtR cm_38 dX3_readPair_44 rfl rfl
theorem x38_47 : Ev L xs ρ 38 47 [l0, l1, l2] (.ref a :: st) (n, I, Lm, Rm) r ↔ (a < n ∧ shp a = (0, 2)) ∧ Ev L xs ρ 38 50 [l0, l1, l2] (.int (I a 9) :: st) (n, I, Lm, Rm) r := ev_gtI cm_38 dX3_readPair_47 rfl rfl
theorem x38_50 : Ev L xs ρ 38 50 [l0, some (.int x), l2] st σ r ↔ Ev L xs ρ 38 51 [l0, some (.int x), l2] (.int x :: st) σ r := ev_iload_n cm_38 dX3_readPair_50 rfl rfl
theorem x38_51 : Ev L xs 4 38 51 [l0, l1, l2] (.int y :: .int x :: .ref a :: []) σ r ↔ ∃ v n2 I2 L2 R2, Em L xs 161 [.ref a, .int x, .int y] σ (v, n2, I2, L2, R2) ∧ Ev L xs 4 38 54 [l0, l1, l2] (v.toList ++ []) (n2, I2, L2, R2) r := ev_cS cm_38 [.ref a, .int x, .int y] dX3_readPair_51 rfl rfl rfl (Nat.le_of_ble_eq_true rfl) (rka_lt rfl (by decide)) (Nat.le_of_ble_eq_true rfl)
theorem x38_54 : Ev L xs ρ 38 54 [some (.ref a), l1, l2] st σ r ↔ Ev L xs ρ 38 55 [some (.ref a), l1, l2] (.ref a :: st) σ r := ev_aload_n cm_38 dX3_readPair_54 rfl rfl
theorem x38_55 : Ev L xs ρ 38 55 [l0, l1, l2] (.ref a :: st) (n, I, Lm, Rm) r ↔ (a < n ∧ shp a = (0, 3)) ∧ Ev L xs ρ 38 58 [l0, l1, l2] (rfv (Rm a 4) :: st) (n, I, Lm, Rm) r := ev_gtR cm_38 dX3_readPair_55 rfl rfl
theorem x38_58 : Ev L xs ρ 38 58 [l0, l1, l2] (.ref a :: st) (n, I, Lm, Rm) r ↔ (a < n ∧ shp a = (0, 2)) ∧ Ev L xs ρ 38 61 [l0, l1, l2] (rfv (Rm a 7) :: st) (n, I, Lm, Rm) r := ev_gtR cm_38 dX3_readPair_58 rfl rfl
theorem x38_61 : Ev L xs ρ 38 61 [some (.ref a), l1, l2] st σ r ↔ Ev L xs ρ 38 62 [some (.ref a), l1, l2] (.ref a :: st) σ r := ev_aload_n cm_38 dX3_readPair_61 rfl rfl
theorem x38_62 : Ev L xs ρ 38 62 [l0, l1, l2] (.ref a :: st) (n, I, Lm, Rm) r ↔ (a < n ∧ shp a = (0, 3)) ∧ Ev L xs ρ 38 65 [l0, l1, l2] (rfv (Rm a 4) :: st) (n, I, Lm, Rm) r := ev_gtR cm_38 dX3_readPair_62 rfl rfl
theorem x38_65 : Ev L xs ρ 38 65 [l0, l1, l2] (.ref a :: st) (n, I, Lm, Rm) r ↔ (a < n ∧ shp a = (0, 2)) ∧ Ev L xs ρ 38 68 [l0, l1, l2] (.int (I a 9) :: st) (n, I, Lm, Rm) r := ev_gtI cm_38 dX3_readPair_65 rfl rfl
theorem x38_68 : Ev L xs ρ 38 68 [l0, l1, some (.int x)] st σ r ↔ Ev L xs ρ 38 69 [l0, l1, some (.int x)] (.int x :: st) σ r := ev_iload_n cm_38 dX3_readPair_68 rfl rfl
theorem x38_69 : Ev L xs 4 38 69 [l0, l1, l2] (.int y :: .int x :: .ref a :: []) σ r ↔ ∃ v n2 I2 L2 R2, Em L xs 161 [.ref a, .int x, .int y] σ (v, n2, I2, L2, R2) ∧ Ev L xs 4 38 72 [l0, l1, l2] (v.toList ++ []) (n2, I2, L2, R2) r := ev_cS cm_38 [.ref a, .int x, .int y] dX3_readPair_69 rfl rfl rfl (Nat.le_of_ble_eq_true rfl) (rka_lt rfl (by decide)) (Nat.le_of_ble_eq_true rfl)
theorem x38_72 : Ev L xs ρ 38 72 [some (.ref a), l1, l2] st σ r ↔ Ev L xs ρ 38 73 [some (.ref a), l1, l2] (.ref a :: st) σ r := ev_aload_n cm_38 dX3_readPair_72 rfl rfl
theorem x38_73 : Ev L xs ρ 38 73 [l0, l1, l2] (.ref a :: st) (n, I, Lm, Rm) r ↔ (a < n ∧ shp a = (0, 3)) ∧ Ev L xs ρ 38 76 [l0, l1, l2] (rfv (Rm a 4) :: st) (n, I, Lm, Rm) r := ev_gtR cm_38 dX3_readPair_73 rfl rfl
theorem x38_76 : Ev L xs ρ 38 76 [l0, l1, l2] (.ref a :: st) σ r ↔ Ev L xs ρ 38 77 [l0, l1, l2] (.ref a :: .ref a :: st) σ r := ev_nx (ev_ex cm_38 dX3_readPair_76 rfl rfl)
theorem x38_77 : Ev L xs ρ 38 77 [l0, l1, l2] (.ref a :: st) (n, I, Lm, Rm) r ↔ (a < n ∧ shp a = (0, 2)) ∧ Ev L xs ρ 38 80 [l0, l1, l2] (.int (I a 9) :: st) (n, I, Lm, Rm) r := ev_gtI cm_38 dX3_readPair_77 rfl rfl
theorem x38_80 : Ev L xs ρ 38 80 [l0, l1, l2] st σ r ↔ Ev L xs ρ 38 81 [l0, l1, l2] (.int (1) :: st) σ r := ev_iconst cm_38 dX3_readPair_80 (by decide)
theorem x38_81 : Ev L xs ρ 38 81 [l0, l1, l2] (.int y :: .int x :: st) σ r ↔ Ev L xs ρ 38 82 [l0, l1, l2] (.int (x + y) :: st) σ r := ev_nx (ev_ex cm_38 dX3_readPair_81 rfl rfl)
theorem x38_82 : Ev L xs ρ 38 82 [l0, l1, l2] (.int x :: .ref a :: st) (n, I, Lm, Rm) r ↔ (a < n ∧ shp a = (0, 2)) ∧ Ev L xs ρ 38 85 [l0, l1, l2] st (n, up2 I a 9 x, Lm, Rm) r := ev_ptI cm_38 dX3_readPair_82 rfl rfl (Or.inl rfl)
theorem x38_85 : Ev L xs ρ 38 85 [l0, l1, l2] [] σ r ↔ r = (none, σ) := ev_retv cm_38 dX3_readPair_85 rfl
theorem cm_39 : mcd 39 = cX3_readWorks := rfl
theorem em_39 : Em L xs 39 [.ref a] σ r ↔ Ev L xs 77 39 0 [some (.ref a), none] [] σ r := Iff.rfl
theorem x39_0 : Ev L xs ρ 39 0 [some (.ref a), l1] st σ r ↔ Ev L xs ρ 39 1 [some (.ref a), l1] (.ref a :: st) σ r := ev_aload_n cm_39 dX3_readWorks_0 rfl rfl
theorem x39_1 : Ev L xs ρ 39 1 [l0, l1] (.ref a :: st) (n, I, Lm, Rm) r ↔ (a < n ∧ shp a = (0, 3)) ∧ Ev L xs ρ 39 4 [l0, l1] (rfv (Rm a 5) :: st) (n, I, Lm, Rm) r := ev_gtR cm_39 dX3_readWorks_1 rfl rfl
theorem x39_4 : Ev L xs ρ 39 4 [l0, l1] (.ref a :: st) (n, I, Lm, Rm) r ↔ (a < n ∧ shp a = (0, 4)) ∧ Ev L xs ρ 39 7 [l0, l1] (.int (I a 6) :: st) (n, I, Lm, Rm) r := ev_gtI cm_39 dX3_readWorks_4 rfl rfl
theorem x39_7 : Ev L xs ρ 39 7 [l0, l1] (.int x :: st) σ r ↔ Ev L xs ρ 39 8 [l0, some (.int x)] st σ r := ev_istore_n cm_39 dX3_readWorks_7 rfl (Nat.le_of_ble_eq_true rfl)
theorem x39_8 : Ev L xs ρ 39 8 [some (.ref a), l1] st σ r ↔ Ev L xs ρ 39 9 [some (.ref a), l1] (.ref a :: st) σ r := ev_aload_n cm_39 dX3_readWorks_8 rfl rfl
theorem x39_9 : Ev L xs ρ 39 9 [l0, l1] (.ref a :: st) (n, I, Lm, Rm) r ↔ (a < n ∧ shp a = (0, 3)) ∧ Ev L xs ρ 39 12 [l0, l1] (rfv (Rm a 5) :: st) (n, I, Lm, Rm) r := ev_gtR cm_39 dX3_readWorks_9 rfl rfl
theorem x39_12 : Ev L xs ρ 39 12 [l0, l1] (.ref a :: st) (n, I, Lm, Rm) r ↔ (a < n ∧ shp a = (0, 4)) ∧ Ev L xs ρ 39 15 [l0, l1] (rfv (Rm a 0) :: st) (n, I, Lm, Rm) r := ev_gtR cm_39 dX3_readWorks_12 rfl rfl
theorem x39_15 : Ev L xs ρ 39 15 [l0, some (.int x)] st σ r ↔ Ev L xs ρ 39 16 [l0, some (.int x)] (.int x :: st) σ r := ev_iload_n cm_39 dX3_readWorks_15 rfl rfl
theorem x39_16 : Ev L xs ρ 39 16 [some (.ref a), l1] st σ r ↔ Ev L xs ρ 39 17 [some (.ref a), l1] (.ref a :: st) σ r := ev_aload_n cm_39 dX3_readWorks_16 rfl rfl
theorem x39_17 : Ev L xs ρ 39 17 [some (.ref a), l1] st σ r ↔ Ev L xs ρ 39 18 [some (.ref a), l1] (.ref a :: st) σ r := ev_aload_n cm_39 dX3_readWorks_17 rfl rfl
theorem x39_18 : Ev L xs ρ 39 18 [l0, l1] (.ref a :: st) (n, I, Lm, Rm) r ↔ (a < n ∧ shp a = (0, 3)) ∧ Ev L xs ρ 39 21 [l0, l1] (rfv (Rm a 2) :: st) (n, I, Lm, Rm) r := ev_gtR cm_39 dX3_readWorks_18 rfl rfl
theorem x39_21 : Ev L xs ρ 39 21 [l0, l1] (.ref a :: st) (n, I, Lm, Rm) r ↔ (a < n ∧ shp a = (0, 6)) ∧ Ev L xs ρ 39 24 [l0, l1] (rfv (Rm a 0) :: st) (n, I, Lm, Rm) r := ev_gtR cm_39 dX3_readWorks_21 rfl rfl
theorem x39_24 : Ev L xs ρ 39 24 [some (.ref a), l1] st σ r ↔ Ev L xs ρ 39 25 [some (.ref a), l1] (.ref a :: st) σ r := ev_aload_n cm_39 dX3_readWorks_24 rfl rfl
theorem x39_25 : Ev L xs ρ 39 25 [l0, l1] (.ref a :: st) (n, I, Lm, Rm) r ↔ (a < n ∧ shp a = (0, 3)) ∧ Ev L xs ρ 39 28 [l0, l1] (rfv (Rm a 2) :: st) (n, I, Lm, Rm) r := ev_gtR cm_39 dX3_readWorks_25 rfl rfl
theorem x39_28 : Ev L xs ρ 39 28 [l0, l1] (.ref a :: st) (n, I, Lm, Rm) r ↔ (a < n ∧ shp a = (0, 6)) ∧ Ev L xs ρ 39 31 [l0, l1] (.int (I a 6) :: st) (n, I, Lm, Rm) r := ev_gtI cm_39 dX3_readWorks_28 rfl rfl
theorem x39_31 : Ev L xs 77 39 31 [l0, l1] (.int y :: .ref c :: .ref b :: .int x :: .ref a :: []) (n, I, Lm, Rm) r ↔ (b < n ∧ shp b = (0, 3)) ∧ ∃ v n2 I2 L2 R2, Em L xs 29 [.ref b, .ref c, .int y] (n, I, Lm, Rm) (v, n2, I2, L2, R2) ∧ Ev L xs 77 39 34 [l0, l1] (v.toList ++ (.int x :: .ref a :: [])) (n2, I2, L2, R2) r := ev_cV cm_39 [.ref c, .int y] dX3_readWorks_31 rfl rfl rfl rfl (Nat.le_of_ble_eq_true rfl) (rka_lt rfl (by decide)) (Nat.le_of_ble_eq_true rfl)
theorem x39_34 : Ev L xs 77 39 34 [l0, l1] (.int y :: .int x :: .ref a :: []) σ r ↔ ∃ v n2 I2 L2 R2, Em L xs 161 [.ref a, .int x, .int y] σ (v, n2, I2, L2, R2) ∧ Ev L xs 77 39 37 [l0, l1] (v.toList ++ []) (n2, I2, L2, R2) r := ev_cS cm_39 [.ref a, .int x, .int y] dX3_readWorks_34 rfl rfl rfl (Nat.le_of_ble_eq_true rfl) (rka_lt rfl (by decide)) (Nat.le_of_ble_eq_true rfl)
theorem x39_37 : Ev L xs ρ 39 37 [some (.ref a), l1] st σ r ↔ Ev L xs ρ 39 38 [some (.ref a), l1] (.ref a :: st) σ r := ev_aload_n cm_39 dX3_readWorks_37 rfl rfl
theorem x39_38 : Ev L xs ρ 39 38 [l0, l1] (.ref a :: st) (n, I, Lm, Rm) r ↔ (a < n ∧ shp a = (0, 3)) ∧ Ev L xs ρ 39 41 [l0, l1] (rfv (Rm a 5) :: st) (n, I, Lm, Rm) r := ev_gtR cm_39 dX3_readWorks_38 rfl rfl
theorem x39_41 : Ev L xs ρ 39 41 [l0, l1] (.ref a :: st) (n, I, Lm, Rm) r ↔ (a < n ∧ shp a = (0, 4)) ∧ Ev L xs ρ 39 44 [l0, l1] (rfv (Rm a 1) :: st) (n, I, Lm, Rm) r := ev_gtR cm_39 dX3_readWorks_41 rfl rfl
theorem x39_44 : Ev L xs ρ 39 44 [l0, some (.int x)] st σ r ↔ Ev L xs ρ 39 45 [l0, some (.int x)] (.int x :: st) σ r := ev_iload_n cm_39 dX3_readWorks_44 rfl rfl
theorem x39_45 : Ev L xs ρ 39 45 [some (.ref a), l1] st σ r ↔ Ev L xs ρ 39 46 [some (.ref a), l1] (.ref a :: st) σ r := ev_aload_n cm_39 dX3_readWorks_45 rfl rfl
theorem x39_46 : Ev L xs ρ 39 46 [l0, l1] (.ref a :: st) (n, I, Lm, Rm) r ↔ (a < n ∧ shp a = (0, 3)) ∧ Ev L xs ρ 39 49 [l0, l1] (rfv (Rm a 5) :: st) (n, I, Lm, Rm) r := ev_gtR cm_39 dX3_readWorks_46 rfl rfl
theorem x39_49 : Ev L xs ρ 39 49 [l0, l1] (.ref a :: st) (n, I, Lm, Rm) r ↔ (a < n ∧ shp a = (0, 4)) ∧ Ev L xs ρ 39 52 [l0, l1] (.int (I a 7) :: st) (n, I, Lm, Rm) r := ev_gtI cm_39 dX3_readWorks_49 rfl rfl
theorem x39_52 : Ev L xs 77 39 52 [l0, l1] (.int y :: .int x :: .ref a :: []) σ r ↔ ∃ v n2 I2 L2 R2, Em L xs 161 [.ref a, .int x, .int y] σ (v, n2, I2, L2, R2) ∧ Ev L xs 77 39 55 [l0, l1] (v.toList ++ []) (n2, I2, L2, R2) r := ev_cS cm_39 [.ref a, .int x, .int y] dX3_readWorks_52 rfl rfl rfl (Nat.le_of_ble_eq_true rfl) (rka_lt rfl (by decide)) (Nat.le_of_ble_eq_true rfl)
theorem x39_55 : Ev L xs ρ 39 55 [some (.ref a), l1] st σ r ↔ Ev L xs ρ 39 56 [some (.ref a), l1] (.ref a :: st) σ r := ev_aload_n cm_39 dX3_readWorks_55 rfl rfl
theorem x39_56 : Ev L xs ρ 39 56 [l0, l1] st σ r ↔ Ev L xs ρ 39 57 [l0, l1] (.int (0) :: st) σ r := ev_iconst cm_39 dX3_readWorks_56 (by decide)
theorem x39_57 : Ev L xs 77 39 57 [l0, l1] (.int x :: .ref a :: []) (n, I, Lm, Rm) r ↔ (a < n ∧ shp a = (0, 3)) ∧ rka 45 [.ref a, .int x] < 77 ∧ ∃ v n2 I2 L2 R2, Em L xs 45 [.ref a, .int x] (n, I, Lm, Rm) (v, n2, I2, L2, R2) ∧ Ev L xs 77 39 60 [l0, l1] (v.toList ++ []) (n2, I2, L2, R2) r := ev_cR cm_39 [.int x] dX3_readWorks_57 rfl rfl rfl rfl (Nat.le_of_ble_eq_true rfl) (Nat.le_of_ble_eq_true rfl)
theorem x39_60 : Ev L xs ρ 39 60 [some (.ref a), l1] st σ r ↔ Ev L xs ρ 39 61 [some (.ref a), l1] (.ref a :: st) σ r := ev_aload_n cm_39 dX3_readWorks_60 rfl rfl
theorem x39_61 : Ev L xs ρ 39 61 [l0, l1] st σ r ↔ Ev L xs ρ 39 63 [l0, l1] (.int (19) :: st) σ r := ev_bipush cm_39 dX3_readWorks_61 (by decide)
theorem x39_63 : Ev L xs 77 39 63 [l0, l1] (.int x :: .ref a :: []) (n, I, Lm, Rm) r ↔ (a < n ∧ shp a = (0, 3)) ∧ ∃ v n2 I2 L2 R2, Em L xs 23 [.ref a, .int x] (n, I, Lm, Rm) (v, n2, I2, L2, R2) ∧ Ev L xs 77 39 66 [l0, l1] (v.toList ++ []) (n2, I2, L2, R2) r := ev_cV cm_39 [.int x] dX3_readWorks_63 rfl rfl rfl rfl (Nat.le_of_ble_eq_true rfl) (rka_lt rfl (by decide)) (Nat.le_of_ble_eq_true rfl)
theorem x39_66 : Ev L xs ρ 39 66 [some (.ref a), l1] st σ r ↔ Ev L xs ρ 39 67 [some (.ref a), l1] (.ref a :: st) σ r := ev_aload_n cm_39 dX3_readWorks_66 rfl rfl
theorem x39_67 : Ev L xs ρ 39 67 [l0, l1] (.ref a :: st) (n, I, Lm, Rm) r ↔ (a < n ∧ shp a = (0, 3)) ∧ Ev L xs ρ 39 70 [l0, l1] (rfv (Rm a 5) :: st) (n, I, Lm, Rm) r := ev_gtR cm_39 dX3_readWorks_67 rfl rfl
theorem x39_70 : Ev L xs ρ 39 70 [l0, l1] (.ref a :: st) (n, I, Lm, Rm) r ↔ (a < n ∧ shp a = (0, 4)) ∧ Ev L xs ρ 39 73 [l0, l1] (rfv (Rm a 2) :: st) (n, I, Lm, Rm) r := ev_gtR cm_39 dX3_readWorks_70 rfl rfl
theorem x39_73 : Ev L xs ρ 39 73 [l0, some (.int x)] st σ r ↔ Ev L xs ρ 39 74 [l0, some (.int x)] (.int x :: st) σ r := ev_iload_n cm_39 dX3_readWorks_73 rfl rfl
theorem x39_74 : Ev L xs ρ 39 74 [some (.ref a), l1] st σ r ↔ Ev L xs ρ 39 75 [some (.ref a), l1] (.ref a :: st) σ r := ev_aload_n cm_39 dX3_readWorks_74 rfl rfl
theorem x39_75 : Ev L xs ρ 39 75 [l0, l1] (.ref a :: st) (n, I, Lm, Rm) r ↔ (a < n ∧ shp a = (0, 3)) ∧ Ev L xs ρ 39 78 [l0, l1] (rfv (Rm a 5) :: st) (n, I, Lm, Rm) r := ev_gtR cm_39 dX3_readWorks_75 rfl rfl
theorem x39_78 : Ev L xs ρ 39 78 [l0, l1] (.ref a :: st) (n, I, Lm, Rm) r ↔ (a < n ∧ shp a = (0, 4)) ∧ Ev L xs ρ 39 81 [l0, l1] (.int (I a 7) :: st) (n, I, Lm, Rm) r := ev_gtI cm_39 dX3_readWorks_78 rfl rfl
theorem x39_81 : Ev L xs 77 39 81 [l0, l1] (.int y :: .int x :: .ref a :: []) σ r ↔ ∃ v n2 I2 L2 R2, Em L xs 161 [.ref a, .int x, .int y] σ (v, n2, I2, L2, R2) ∧ Ev L xs 77 39 84 [l0, l1] (v.toList ++ []) (n2, I2, L2, R2) r := ev_cS cm_39 [.ref a, .int x, .int y] dX3_readWorks_81 rfl rfl rfl (Nat.le_of_ble_eq_true rfl) (rka_lt rfl (by decide)) (Nat.le_of_ble_eq_true rfl)
theorem x39_84 : Ev L xs ρ 39 84 [some (.ref a), l1] st σ r ↔ Ev L xs ρ 39 85 [some (.ref a), l1] (.ref a :: st) σ r := ev_aload_n cm_39 dX3_readWorks_84 rfl rfl
theorem x39_85 : Ev L xs ρ 39 85 [l0, l1] st σ r ↔ Ev L xs ρ 39 86 [l0, l1] (.int (0) :: st) σ r := ev_iconst cm_39 dX3_readWorks_85 (by decide)
theorem x39_86 : Ev L xs 77 39 86 [l0, l1] (.int x :: .ref a :: []) (n, I, Lm, Rm) r ↔ (a < n ∧ shp a = (0, 3)) ∧ rka 40 [.ref a, .int x] < 77 ∧ ∃ v n2 I2 L2 R2, Em L xs 40 [.ref a, .int x] (n, I, Lm, Rm) (v, n2, I2, L2, R2) ∧ Ev L xs 77 39 89 [l0, l1] (v.toList ++ []) (n2, I2, L2, R2) r := ev_cR cm_39 [.int x] dX3_readWorks_86 rfl rfl rfl rfl (Nat.le_of_ble_eq_true rfl) (Nat.le_of_ble_eq_true rfl)
theorem x39_89 : Ev L xs ρ 39 89 [some (.ref a), l1] st σ r ↔ Ev L xs ρ 39 90 [some (.ref a), l1] (.ref a :: st) σ r := ev_aload_n cm_39 dX3_readWorks_89 rfl rfl
theorem x39_90 : Ev L xs ρ 39 90 [l0, l1] (.ref a :: st) (n, I, Lm, Rm) r ↔ (a < n ∧ shp a = (0, 3)) ∧ Ev L xs ρ 39 93 [l0, l1] (rfv (Rm a 5) :: st) (n, I, Lm, Rm) r := ev_gtR cm_39 dX3_readWorks_90 rfl rfl
theorem x39_93 : Ev L xs ρ 39 93 [l0, l1] (.ref a :: st) (n, I, Lm, Rm) r ↔ (a < n ∧ shp a = (0, 4)) ∧ Ev L xs ρ 39 96 [l0, l1] (rfv (Rm a 3) :: st) (n, I, Lm, Rm) r := ev_gtR cm_39 dX3_readWorks_93 rfl rfl
theorem x39_96 : Ev L xs ρ 39 96 [l0, some (.int x)] st σ r ↔ Ev L xs ρ 39 97 [l0, some (.int x)] (.int x :: st) σ r := ev_iload_n cm_39 dX3_readWorks_96 rfl rfl
theorem x39_97 : Ev L xs ρ 39 97 [some (.ref a), l1] st σ r ↔ Ev L xs ρ 39 98 [some (.ref a), l1] (.ref a :: st) σ r := ev_aload_n cm_39 dX3_readWorks_97 rfl rfl
theorem x39_98 : Ev L xs ρ 39 98 [l0, l1] (.ref a :: st) (n, I, Lm, Rm) r ↔ (a < n ∧ shp a = (0, 3)) ∧ Ev L xs ρ 39 101 [l0, l1] (rfv (Rm a 5) :: st) (n, I, Lm, Rm) r := ev_gtR cm_39 dX3_readWorks_98 rfl rfl
theorem x39_101 : Ev L xs ρ 39 101 [l0, l1] (.ref a :: st) (n, I, Lm, Rm) r ↔ (a < n ∧ shp a = (0, 4)) ∧ Ev L xs ρ 39 104 [l0, l1] (.int (I a 7) :: st) (n, I, Lm, Rm) r := ev_gtI cm_39 dX3_readWorks_101 rfl rfl
theorem x39_104 : Ev L xs 77 39 104 [l0, l1] (.int y :: .int x :: .ref a :: []) σ r ↔ ∃ v n2 I2 L2 R2, Em L xs 161 [.ref a, .int x, .int y] σ (v, n2, I2, L2, R2) ∧ Ev L xs 77 39 107 [l0, l1] (v.toList ++ []) (n2, I2, L2, R2) r := ev_cS cm_39 [.ref a, .int x, .int y] dX3_readWorks_104 rfl rfl rfl (Nat.le_of_ble_eq_true rfl) (rka_lt rfl (by decide)) (Nat.le_of_ble_eq_true rfl)
theorem x39_107 : Ev L xs ρ 39 107 [some (.ref a), l1] st σ r ↔ Ev L xs ρ 39 108 [some (.ref a), l1] (.ref a :: st) σ r := ev_aload_n cm_39 dX3_readWorks_107 rfl rfl
theorem x39_108 : Ev L xs ρ 39 108 [l0, l1] (.ref a :: st) (n, I, Lm, Rm) r ↔ (a < n ∧ shp a = (0, 3)) ∧ Ev L xs ρ 39 111 [l0, l1] (rfv (Rm a 5) :: st) (n, I, Lm, Rm) r := ev_gtR cm_39 dX3_readWorks_108 rfl rfl
theorem x39_111 : Ev L xs ρ 39 111 [l0, l1] (.ref a :: st) σ r ↔ Ev L xs ρ 39 112 [l0, l1] (.ref a :: .ref a :: st) σ r := ev_nx (ev_ex cm_39 dX3_readWorks_111 rfl rfl)
theorem x39_112 : Ev L xs ρ 39 112 [l0, l1] (.ref a :: st) (n, I, Lm, Rm) r ↔ (a < n ∧ shp a = (0, 4)) ∧ Ev L xs ρ 39 115 [l0, l1] (.int (I a 6) :: st) (n, I, Lm, Rm) r := ev_gtI cm_39 dX3_readWorks_112 rfl rfl
theorem x39_115 : Ev L xs ρ 39 115 [l0, l1] st σ r ↔ Ev L xs ρ 39 116 [l0, l1] (.int (1) :: st) σ r := ev_iconst cm_39 dX3_readWorks_115 (by decide)
theorem x39_116 : Ev L xs ρ 39 116 [l0, l1] (.int y :: .int x :: st) σ r ↔ Ev L xs ρ 39 117 [l0, l1] (.int (x + y) :: st) σ r := ev_nx (ev_ex cm_39 dX3_readWorks_116 rfl rfl)
theorem x39_117 : Ev L xs ρ 39 117 [l0, l1] (.int x :: .ref a :: st) (n, I, Lm, Rm) r ↔ (a < n ∧ shp a = (0, 4)) ∧ Ev L xs ρ 39 120 [l0, l1] st (n, up2 I a 6 x, Lm, Rm) r := ev_ptI cm_39 dX3_readWorks_117 rfl rfl (Or.inl rfl)
theorem x39_120 : Ev L xs ρ 39 120 [l0, l1] [] σ r ↔ r = (none, σ) := ev_retv cm_39 dX3_readWorks_120 rfl
theorem cm_40 : mcd 40 = cX3_readTest := rfl
theorem em_40 : Em L xs 40 [.ref a, .int x] σ r ↔ Ev L xs (10 + 8 * (8 - ixn x)) 40 0 [some (.ref a), some (.int x), none] [] σ r := Iff.rfl
theorem x40_0 : Ev L xs ρ 40 0 [some (.ref a), l1, l2] st σ r ↔ Ev L xs ρ 40 1 [some (.ref a), l1, l2] (.ref a :: st) σ r := ev_aload_n cm_40 dX3_readTest_0 rfl rfl
theorem x40_1 : Ev L xs ρ 40 1 [l0, some (.int x), l2] st σ r ↔ Ev L xs ρ 40 2 [l0, some (.int x), l2] (.int x :: st) σ r := ev_iload_n cm_40 dX3_readTest_1 rfl rfl
theorem x40_2 : Ev L xs ρ 40 2 [l0, l1, l2] (.int x :: .ref a :: []) (n, I, Lm, Rm) r ↔ (a < n ∧ shp a = (0, 3)) ∧ rka 41 [.ref a, .int x] < ρ ∧ ∃ v n2 I2 L2 R2, Em L xs 41 [.ref a, .int x] (n, I, Lm, Rm) (v, n2, I2, L2, R2) ∧ Ev L xs ρ 40 5 [l0, l1, l2] (v.toList ++ []) (n2, I2, L2, R2) r := ev_cR cm_40 [.int x] dX3_readTest_2 rfl rfl rfl rfl (Nat.le_of_ble_eq_true rfl) (Nat.le_of_ble_eq_true rfl)
theorem x40_5 : Ev L xs ρ 40 5 [l0, l1, l2] st σ r ↔ Ev L xs ρ 40 6 [l0, l1, l2] (.int (0) :: st) σ r := ev_iconst cm_40 dX3_readTest_5 (by decide)
theorem x40_6 : Ev L xs ρ 40 6 [l0, l1, l2] (.int x :: st) σ r ↔ Ev L xs ρ 40 7 [l0, l1, some (.int x)] st σ r := ev_istore_n cm_40 dX3_readTest_6 rfl (Nat.le_of_ble_eq_true rfl)
theorem x40_7 : Ev L xs ρ 40 7 [l0, l1, some (.int x)] st σ r ↔ Ev L xs ρ 40 8 [l0, l1, some (.int x)] (.int x :: st) σ r := ev_iload_n cm_40 dX3_readTest_7 rfl rfl
theorem x40_8 : Ev L xs ρ 40 8 [l0, l1, l2] st σ r ↔ Ev L xs ρ 40 11 [l0, l1, l2] (.int (1600) :: st) σ r := ev_sipush cm_40 dX3_readTest_8 (by decide)
theorem x40_11 : Ev L xs ρ 40 11 [l0, l1, l2] (.int y :: .int x :: st) σ r ↔ if y ≤ x then Ev L xs ρ 40 44 [l0, l1, l2] st σ r else Ev L xs ρ 40 14 [l0, l1, l2] st σ r := ev_icge cm_40 dX3_readTest_11 (by decide)
theorem x40_14 : Ev L xs ρ 40 14 [some (.ref a), l1, l2] st σ r ↔ Ev L xs ρ 40 15 [some (.ref a), l1, l2] (.ref a :: st) σ r := ev_aload_n cm_40 dX3_readTest_14 rfl rfl
theorem x40_15 : Ev L xs ρ 40 15 [l0, l1, l2] st σ r ↔ Ev L xs ρ 40 17 [l0, l1, l2] (.int (20) :: st) σ r := ev_bipush cm_40 dX3_readTest_15 (by decide)
theorem x40_17 : Ev L xs ρ 40 17 [l0, l1, l2] (.int x :: .ref a :: []) (n, I, Lm, Rm) r ↔ (a < n ∧ shp a = (0, 3)) ∧ rka 22 [.ref a, .int x] < ρ ∧ ∃ v n2 I2 L2 R2, Em L xs 22 [.ref a, .int x] (n, I, Lm, Rm) (v, n2, I2, L2, R2) ∧ Ev L xs ρ 40 20 [l0, l1, l2] (v.toList ++ []) (n2, I2, L2, R2) r := ev_cR cm_40 [.int x] dX3_readTest_17 rfl rfl rfl rfl (Nat.le_of_ble_eq_true rfl) (Nat.le_of_ble_eq_true rfl)
theorem x40_20 : Ev L xs ρ 40 20 [l0, l1, l2] (.int x :: st) σ r ↔ if x = 0 then Ev L xs ρ 40 44 [l0, l1, l2] st σ r else Ev L xs ρ 40 23 [l0, l1, l2] st σ r := ev_ifeq cm_40 dX3_readTest_20 (by decide)
theorem x40_23 : Ev L xs ρ 40 23 [some (.ref a), l1, l2] st σ r ↔ Ev L xs ρ 40 24 [some (.ref a), l1, l2] (.ref a :: st) σ r := ev_aload_n cm_40 dX3_readTest_23 rfl rfl
theorem x40_24 : Ev L xs ρ 40 24 [l0, some (.int x), l2] st σ r ↔ Ev L xs ρ 40 25 [l0, some (.int x), l2] (.int x :: st) σ r := ev_iload_n cm_40 dX3_readTest_24 rfl rfl
theorem x40_25 : Ev L xs ρ 40 25 [l0, l1, l2] (.int x :: .ref a :: []) (n, I, Lm, Rm) r ↔ (a < n ∧ shp a = (0, 3)) ∧ rka 41 [.ref a, .int x] < ρ ∧ ∃ v n2 I2 L2 R2, Em L xs 41 [.ref a, .int x] (n, I, Lm, Rm) (v, n2, I2, L2, R2) ∧ Ev L xs ρ 40 28 [l0, l1, l2] (v.toList ++ []) (n2, I2, L2, R2) r := ev_cR cm_40 [.int x] dX3_readTest_25 rfl rfl rfl rfl (Nat.le_of_ble_eq_true rfl) (Nat.le_of_ble_eq_true rfl)
theorem x40_28 : Ev L xs ρ 40 28 [some (.ref a), l1, l2] st σ r ↔ Ev L xs ρ 40 29 [some (.ref a), l1, l2] (.ref a :: st) σ r := ev_aload_n cm_40 dX3_readTest_28 rfl rfl
theorem x40_29 : Ev L xs ρ 40 29 [l0, l1, l2] (.ref a :: st) (n, I, Lm, Rm) r ↔ (a < n ∧ shp a = (0, 3)) ∧ Ev L xs ρ 40 32 [l0, l1, l2] (rfv (Rm a 5) :: st) (n, I, Lm, Rm) r := ev_gtR cm_40 dX3_readTest_29 rfl rfl
theorem x40_32 : Ev L xs ρ 40 32 [l0, l1, l2] st σ r ↔ Ev L xs ρ 40 35 [l0, l1, l2] (.int (10016) :: st) σ r := ev_sipush cm_40 dX3_readTest_32 (by decide)
theorem x40_35 : Ev L xs ρ 40 35 [l0, l1, l2] (.int x :: .ref a :: []) (n, I, Lm, Rm) r ↔ (a < n ∧ shp a = (0, 4)) ∧ rka 52 [.ref a, .int x] < ρ ∧ ∃ v n2 I2 L2 R2, Em L xs 52 [.ref a, .int x] (n, I, Lm, Rm) (v, n2, I2, L2, R2) ∧ Ev L xs ρ 40 38 [l0, l1, l2] (v.toList ++ []) (n2, I2, L2, R2) r := ev_cR cm_40 [.int x] dX3_readTest_35 rfl rfl rfl rfl (Nat.le_of_ble_eq_true rfl) (Nat.le_of_ble_eq_true rfl)
theorem x40_38 : Ev L xs ρ 40 38 [l0, l1, some (.int x)] st σ r ↔ Ev L xs ρ 40 41 [l0, l1, some (.int (x + (1)))] st σ r := ev_iinc cm_40 dX3_readTest_38 rfl (by decide)
theorem x40_41 : Ev L xs ρ 40 41 [l0, l1, l2] st σ r ↔ Ev L xs ρ 40 7 [l0, l1, l2] st σ r := ev_goto cm_40 dX3_readTest_41 (by decide)
theorem x40_44 : Ev L xs ρ 40 44 [l0, l1, l2] [] σ r ↔ r = (none, σ) := ev_retv cm_40 dX3_readTest_44 rfl
theorem cm_41 : mcd 41 = cX3_readBoth := rfl
theorem em_41 : Em L xs 41 [.ref a, .int x] σ r ↔ Ev L xs (9 + 8 * (8 - ixn x)) 41 0 [some (.ref a), some (.int x), none] [] σ r := Iff.rfl
theorem x41_0 : Ev L xs ρ 41 0 [some (.ref a), l1, l2] st σ r ↔ Ev L xs ρ 41 1 [some (.ref a), l1, l2] (.ref a :: st) σ r := ev_aload_n cm_41 dX3_readBoth_0 rfl rfl
theorem x41_1 : Ev L xs ρ 41 1 [l0, some (.int x), l2] st σ r ↔ Ev L xs ρ 41 2 [l0, some (.int x), l2] (.int x :: st) σ r := ev_iload_n cm_41 dX3_readBoth_1 rfl rfl
theorem x41_2 : Ev L xs ρ 41 2 [l0, l1, l2] (.int x :: .ref a :: []) (n, I, Lm, Rm) r ↔ (a < n ∧ shp a = (0, 3)) ∧ rka 42 [.ref a, .int x] < ρ ∧ ∃ v n2 I2 L2 R2, Em L xs 42 [.ref a, .int x] (n, I, Lm, Rm) (v, n2, I2, L2, R2) ∧ Ev L xs ρ 41 5 [l0, l1, l2] (v.toList ++ []) (n2, I2, L2, R2) r := ev_cR cm_41 [.int x] dX3_readBoth_2 rfl rfl rfl rfl (Nat.le_of_ble_eq_true rfl) (Nat.le_of_ble_eq_true rfl)
theorem x41_5 : Ev L xs ρ 41 5 [l0, l1, l2] st σ r ↔ Ev L xs ρ 41 6 [l0, l1, l2] (.int (0) :: st) σ r := ev_iconst cm_41 dX3_readBoth_5 (by decide)
theorem x41_6 : Ev L xs ρ 41 6 [l0, l1, l2] (.int x :: st) σ r ↔ Ev L xs ρ 41 7 [l0, l1, some (.int x)] st σ r := ev_istore_n cm_41 dX3_readBoth_6 rfl (Nat.le_of_ble_eq_true rfl)
theorem x41_7 : Ev L xs ρ 41 7 [l0, l1, some (.int x)] st σ r ↔ Ev L xs ρ 41 8 [l0, l1, some (.int x)] (.int x :: st) σ r := ev_iload_n cm_41 dX3_readBoth_7 rfl rfl
theorem x41_8 : Ev L xs ρ 41 8 [l0, l1, l2] st σ r ↔ Ev L xs ρ 41 11 [l0, l1, l2] (.int (1600) :: st) σ r := ev_sipush cm_41 dX3_readBoth_8 (by decide)
theorem x41_11 : Ev L xs ρ 41 11 [l0, l1, l2] (.int y :: .int x :: st) σ r ↔ if y ≤ x then Ev L xs ρ 41 44 [l0, l1, l2] st σ r else Ev L xs ρ 41 14 [l0, l1, l2] st σ r := ev_icge cm_41 dX3_readBoth_11 (by decide)
theorem x41_14 : Ev L xs ρ 41 14 [some (.ref a), l1, l2] st σ r ↔ Ev L xs ρ 41 15 [some (.ref a), l1, l2] (.ref a :: st) σ r := ev_aload_n cm_41 dX3_readBoth_14 rfl rfl
theorem x41_15 : Ev L xs ρ 41 15 [l0, l1, l2] st σ r ↔ Ev L xs ρ 41 17 [l0, l1, l2] (.int (21) :: st) σ r := ev_bipush cm_41 dX3_readBoth_15 (by decide)
theorem x41_17 : Ev L xs ρ 41 17 [l0, l1, l2] (.int x :: .ref a :: []) (n, I, Lm, Rm) r ↔ (a < n ∧ shp a = (0, 3)) ∧ rka 22 [.ref a, .int x] < ρ ∧ ∃ v n2 I2 L2 R2, Em L xs 22 [.ref a, .int x] (n, I, Lm, Rm) (v, n2, I2, L2, R2) ∧ Ev L xs ρ 41 20 [l0, l1, l2] (v.toList ++ []) (n2, I2, L2, R2) r := ev_cR cm_41 [.int x] dX3_readBoth_17 rfl rfl rfl rfl (Nat.le_of_ble_eq_true rfl) (Nat.le_of_ble_eq_true rfl)
theorem x41_20 : Ev L xs ρ 41 20 [l0, l1, l2] (.int x :: st) σ r ↔ if x = 0 then Ev L xs ρ 41 44 [l0, l1, l2] st σ r else Ev L xs ρ 41 23 [l0, l1, l2] st σ r := ev_ifeq cm_41 dX3_readBoth_20 (by decide)
theorem x41_23 : Ev L xs ρ 41 23 [some (.ref a), l1, l2] st σ r ↔ Ev L xs ρ 41 24 [some (.ref a), l1, l2] (.ref a :: st) σ r := ev_aload_n cm_41 dX3_readBoth_23 rfl rfl
theorem x41_24 : Ev L xs ρ 41 24 [l0, some (.int x), l2] st σ r ↔ Ev L xs ρ 41 25 [l0, some (.int x), l2] (.int x :: st) σ r := ev_iload_n cm_41 dX3_readBoth_24 rfl rfl
theorem x41_25 : Ev L xs ρ 41 25 [l0, l1, l2] (.int x :: .ref a :: []) (n, I, Lm, Rm) r ↔ (a < n ∧ shp a = (0, 3)) ∧ rka 42 [.ref a, .int x] < ρ ∧ ∃ v n2 I2 L2 R2, Em L xs 42 [.ref a, .int x] (n, I, Lm, Rm) (v, n2, I2, L2, R2) ∧ Ev L xs ρ 41 28 [l0, l1, l2] (v.toList ++ []) (n2, I2, L2, R2) r := ev_cR cm_41 [.int x] dX3_readBoth_25 rfl rfl rfl rfl (Nat.le_of_ble_eq_true rfl) (Nat.le_of_ble_eq_true rfl)
theorem x41_28 : Ev L xs ρ 41 28 [some (.ref a), l1, l2] st σ r ↔ Ev L xs ρ 41 29 [some (.ref a), l1, l2] (.ref a :: st) σ r := ev_aload_n cm_41 dX3_readBoth_28 rfl rfl
theorem x41_29 : Ev L xs ρ 41 29 [l0, l1, l2] (.ref a :: st) (n, I, Lm, Rm) r ↔ (a < n ∧ shp a = (0, 3)) ∧ Ev L xs ρ 41 32 [l0, l1, l2] (rfv (Rm a 5) :: st) (n, I, Lm, Rm) r := ev_gtR cm_41 dX3_readBoth_29 rfl rfl
theorem x41_32 : Ev L xs ρ 41 32 [l0, l1, l2] st σ r ↔ Ev L xs ρ 41 35 [l0, l1, l2] (.int (10015) :: st) σ r := ev_sipush cm_41 dX3_readBoth_32 (by decide)
theorem x41_35 : Ev L xs ρ 41 35 [l0, l1, l2] (.int x :: .ref a :: []) (n, I, Lm, Rm) r ↔ (a < n ∧ shp a = (0, 4)) ∧ rka 52 [.ref a, .int x] < ρ ∧ ∃ v n2 I2 L2 R2, Em L xs 52 [.ref a, .int x] (n, I, Lm, Rm) (v, n2, I2, L2, R2) ∧ Ev L xs ρ 41 38 [l0, l1, l2] (v.toList ++ []) (n2, I2, L2, R2) r := ev_cR cm_41 [.int x] dX3_readBoth_35 rfl rfl rfl rfl (Nat.le_of_ble_eq_true rfl) (Nat.le_of_ble_eq_true rfl)
theorem x41_38 : Ev L xs ρ 41 38 [l0, l1, some (.int x)] st σ r ↔ Ev L xs ρ 41 41 [l0, l1, some (.int (x + (1)))] st σ r := ev_iinc cm_41 dX3_readBoth_38 rfl (by decide)
theorem x41_41 : Ev L xs ρ 41 41 [l0, l1, l2] st σ r ↔ Ev L xs ρ 41 7 [l0, l1, l2] st σ r := ev_goto cm_41 dX3_readBoth_41 (by decide)
theorem x41_44 : Ev L xs ρ 41 44 [l0, l1, l2] [] σ r ↔ r = (none, σ) := ev_retv cm_41 dX3_readBoth_44 rfl
theorem cm_42 : mcd 42 = cX3_readFact := rfl
theorem em_42 : Em L xs 42 [.ref a, .int x] σ r ↔ Ev L xs (8 + 8 * (8 - ixn x)) 42 0 [some (.ref a), some (.int x), none, none] [] σ r := Iff.rfl
theorem x42_0 : Ev L xs ρ 42 0 [some (.ref a), l1, l2, l3] st σ r ↔ Ev L xs ρ 42 1 [some (.ref a), l1, l2, l3] (.ref a :: st) σ r := ev_aload_n cm_42 dX3_readFact_0 rfl rfl
theorem x42_1 : Ev L xs ρ 42 1 [l0, l1, l2, l3] (.ref a :: []) (n, I, Lm, Rm) r ↔ (a < n ∧ shp a = (0, 3)) ∧ rka 20 [.ref a] < ρ ∧ ∃ v n2 I2 L2 R2, Em L xs 20 [.ref a] (n, I, Lm, Rm) (v, n2, I2, L2, R2) ∧ Ev L xs ρ 42 4 [l0, l1, l2, l3] (v.toList ++ []) (n2, I2, L2, R2) r := ev_cR cm_42 [] dX3_readFact_1 rfl rfl rfl rfl (Nat.le_of_ble_eq_true rfl) (Nat.le_of_ble_eq_true rfl)
theorem x42_4 : Ev L xs ρ 42 4 [l0, l1, l2, l3] (.int x :: st) σ r ↔ Ev L xs ρ 42 5 [l0, l1, some (.int x), l3] st σ r := ev_istore_n cm_42 dX3_readFact_4 rfl (Nat.le_of_ble_eq_true rfl)
theorem x42_5 : Ev L xs ρ 42 5 [l0, l1, some (.int x), l3] st σ r ↔ Ev L xs ρ 42 6 [l0, l1, some (.int x), l3] (.int x :: st) σ r := ev_iload_n cm_42 dX3_readFact_5 rfl rfl
theorem x42_6 : Ev L xs ρ 42 6 [l0, l1, l2, l3] st σ r ↔ Ev L xs ρ 42 8 [l0, l1, l2, l3] (.int (22) :: st) σ r := ev_bipush cm_42 dX3_readFact_6 (by decide)
theorem x42_8 : Ev L xs ρ 42 8 [l0, l1, l2, l3] (.int y :: .int x :: st) σ r ↔ if x = y then Ev L xs ρ 42 11 [l0, l1, l2, l3] st σ r else Ev L xs ρ 42 39 [l0, l1, l2, l3] st σ r := ev_icne cm_42 dX3_readFact_8 (by decide)
theorem x42_11 : Ev L xs ρ 42 11 [some (.ref a), l1, l2, l3] st σ r ↔ Ev L xs ρ 42 12 [some (.ref a), l1, l2, l3] (.ref a :: st) σ r := ev_aload_n cm_42 dX3_readFact_11 rfl rfl
theorem x42_12 : Ev L xs ρ 42 12 [l0, some (.int x), l2, l3] st σ r ↔ Ev L xs ρ 42 13 [l0, some (.int x), l2, l3] (.int x :: st) σ r := ev_iload_n cm_42 dX3_readFact_12 rfl rfl
theorem x42_13 : Ev L xs ρ 42 13 [l0, l1, l2, l3] (.int x :: .ref a :: []) (n, I, Lm, Rm) r ↔ (a < n ∧ shp a = (0, 3)) ∧ rka 44 [.ref a, .int x] < ρ ∧ ∃ v n2 I2 L2 R2, Em L xs 44 [.ref a, .int x] (n, I, Lm, Rm) (v, n2, I2, L2, R2) ∧ Ev L xs ρ 42 16 [l0, l1, l2, l3] (v.toList ++ []) (n2, I2, L2, R2) r := ev_cR cm_42 [.int x] dX3_readFact_13 rfl rfl rfl rfl (Nat.le_of_ble_eq_true rfl) (Nat.le_of_ble_eq_true rfl)
theorem x42_16 : Ev L xs ρ 42 16 [l0, l1, l2, l3] (.int x :: st) σ r ↔ if x = 0 then Ev L xs ρ 42 114 [l0, l1, l2, l3] st σ r else Ev L xs ρ 42 19 [l0, l1, l2, l3] st σ r := ev_ifeq cm_42 dX3_readFact_16 (by decide)
theorem x42_19 : Ev L xs ρ 42 19 [some (.ref a), l1, l2, l3] st σ r ↔ Ev L xs ρ 42 20 [some (.ref a), l1, l2, l3] (.ref a :: st) σ r := ev_aload_n cm_42 dX3_readFact_19 rfl rfl
theorem x42_20 : Ev L xs ρ 42 20 [l0, some (.int x), l2, l3] st σ r ↔ Ev L xs ρ 42 21 [l0, some (.int x), l2, l3] (.int x :: st) σ r := ev_iload_n cm_42 dX3_readFact_20 rfl rfl
theorem x42_21 : Ev L xs ρ 42 21 [l0, l1, l2, l3] st σ r ↔ Ev L xs ρ 42 22 [l0, l1, l2, l3] (.int (1) :: st) σ r := ev_iconst cm_42 dX3_readFact_21 (by decide)
theorem x42_22 : Ev L xs ρ 42 22 [l0, l1, l2, l3] (.int y :: .int x :: st) σ r ↔ Ev L xs ρ 42 23 [l0, l1, l2, l3] (.int (x + y) :: st) σ r := ev_nx (ev_ex cm_42 dX3_readFact_22 rfl rfl)
theorem x42_23 : Ev L xs ρ 42 23 [l0, l1, l2, l3] (.int x :: .ref a :: []) (n, I, Lm, Rm) r ↔ (a < n ∧ shp a = (0, 3)) ∧ rka 42 [.ref a, .int x] < ρ ∧ ∃ v n2 I2 L2 R2, Em L xs 42 [.ref a, .int x] (n, I, Lm, Rm) (v, n2, I2, L2, R2) ∧ Ev L xs ρ 42 26 [l0, l1, l2, l3] (v.toList ++ []) (n2, I2, L2, R2) r := ev_cR cm_42 [.int x] dX3_readFact_23 rfl rfl rfl rfl (Nat.le_of_ble_eq_true rfl) (Nat.le_of_ble_eq_true rfl)
theorem x42_26 : Ev L xs ρ 42 26 [some (.ref a), l1, l2, l3] st σ r ↔ Ev L xs ρ 42 27 [some (.ref a), l1, l2, l3] (.ref a :: st) σ r := ev_aload_n cm_42 dX3_readFact_26 rfl rfl
theorem x42_27 : Ev L xs ρ 42 27 [l0, l1, l2, l3] (.ref a :: st) (n, I, Lm, Rm) r ↔ (a < n ∧ shp a = (0, 3)) ∧ Ev L xs ρ 42 30 [l0, l1, l2, l3] (rfv (Rm a 5) :: st) (n, I, Lm, Rm) r := ev_gtR cm_42 dX3_readFact_27 rfl rfl
theorem x42_30 : Ev L xs ρ 42 30 [l0, l1, l2, l3] st σ r ↔ Ev L xs ρ 42 33 [l0, l1, l2, l3] (.int (10010) :: st) σ r := ev_sipush cm_42 dX3_readFact_30 (by decide)
theorem x42_33 : Ev L xs ρ 42 33 [l0, l1, l2, l3] (.int x :: .ref a :: []) (n, I, Lm, Rm) r ↔ (a < n ∧ shp a = (0, 4)) ∧ rka 52 [.ref a, .int x] < ρ ∧ ∃ v n2 I2 L2 R2, Em L xs 52 [.ref a, .int x] (n, I, Lm, Rm) (v, n2, I2, L2, R2) ∧ Ev L xs ρ 42 36 [l0, l1, l2, l3] (v.toList ++ []) (n2, I2, L2, R2) r := ev_cR cm_42 [.int x] dX3_readFact_33 rfl rfl rfl rfl (Nat.le_of_ble_eq_true rfl) (Nat.le_of_ble_eq_true rfl)
theorem x42_36 : Ev L xs ρ 42 36 [l0, l1, l2, l3] st σ r ↔ Ev L xs ρ 42 114 [l0, l1, l2, l3] st σ r := ev_goto cm_42 dX3_readFact_36 (by decide)
theorem x42_39 : Ev L xs ρ 42 39 [l0, l1, some (.int x), l3] st σ r ↔ Ev L xs ρ 42 40 [l0, l1, some (.int x), l3] (.int x :: st) σ r := ev_iload_n cm_42 dX3_readFact_39 rfl rfl
theorem x42_40 : Ev L xs ρ 42 40 [l0, l1, l2, l3] st σ r ↔ Ev L xs ρ 42 43 [l0, l1, l2, l3] (.int (347) :: st) σ r := ev_sipush cm_42 dX3_readFact_40 (by decide)
theorem x42_43 : Ev L xs ρ 42 43 [l0, l1, l2, l3] (.int y :: .int x :: st) σ r ↔ if x = y then Ev L xs ρ 42 46 [l0, l1, l2, l3] st σ r else Ev L xs ρ 42 71 [l0, l1, l2, l3] st σ r := ev_icne cm_42 dX3_readFact_43 (by decide)
theorem x42_46 : Ev L xs ρ 42 46 [some (.ref a), l1, l2, l3] st σ r ↔ Ev L xs ρ 42 47 [some (.ref a), l1, l2, l3] (.ref a :: st) σ r := ev_aload_n cm_42 dX3_readFact_46 rfl rfl
theorem x42_47 : Ev L xs ρ 42 47 [l0, some (.int x), l2, l3] st σ r ↔ Ev L xs ρ 42 48 [l0, some (.int x), l2, l3] (.int x :: st) σ r := ev_iload_n cm_42 dX3_readFact_47 rfl rfl
theorem x42_48 : Ev L xs ρ 42 48 [l0, l1, l2, l3] (.int x :: .ref a :: []) (n, I, Lm, Rm) r ↔ (a < n ∧ shp a = (0, 3)) ∧ rka 44 [.ref a, .int x] < ρ ∧ ∃ v n2 I2 L2 R2, Em L xs 44 [.ref a, .int x] (n, I, Lm, Rm) (v, n2, I2, L2, R2) ∧ Ev L xs ρ 42 51 [l0, l1, l2, l3] (v.toList ++ []) (n2, I2, L2, R2) r := ev_cR cm_42 [.int x] dX3_readFact_48 rfl rfl rfl rfl (Nat.le_of_ble_eq_true rfl) (Nat.le_of_ble_eq_true rfl)
theorem x42_51 : Ev L xs ρ 42 51 [l0, l1, l2, l3] (.int x :: st) σ r ↔ if x = 0 then Ev L xs ρ 42 114 [l0, l1, l2, l3] st σ r else Ev L xs ρ 42 54 [l0, l1, l2, l3] st σ r := ev_ifeq cm_42 dX3_readFact_51 (by decide)
theorem x42_54 : Ev L xs ρ 42 54 [some (.ref a), l1, l2, l3] st σ r ↔ Ev L xs ρ 42 55 [some (.ref a), l1, l2, l3] (.ref a :: st) σ r := ev_aload_n cm_42 dX3_readFact_54 rfl rfl
theorem x42_55 : Ev L xs ρ 42 55 [l0, some (.int x), l2, l3] st σ r ↔ Ev L xs ρ 42 56 [l0, some (.int x), l2, l3] (.int x :: st) σ r := ev_iload_n cm_42 dX3_readFact_55 rfl rfl
theorem x42_56 : Ev L xs ρ 42 56 [l0, l1, l2, l3] st σ r ↔ Ev L xs ρ 42 57 [l0, l1, l2, l3] (.int (1) :: st) σ r := ev_iconst cm_42 dX3_readFact_56 (by decide)
theorem x42_57 : Ev L xs ρ 42 57 [l0, l1, l2, l3] (.int y :: .int x :: st) σ r ↔ Ev L xs ρ 42 58 [l0, l1, l2, l3] (.int (x + y) :: st) σ r := ev_nx (ev_ex cm_42 dX3_readFact_57 rfl rfl)
theorem x42_58 : Ev L xs ρ 42 58 [l0, l1, l2, l3] (.int x :: .ref a :: []) (n, I, Lm, Rm) r ↔ (a < n ∧ shp a = (0, 3)) ∧ rka 40 [.ref a, .int x] < ρ ∧ ∃ v n2 I2 L2 R2, Em L xs 40 [.ref a, .int x] (n, I, Lm, Rm) (v, n2, I2, L2, R2) ∧ Ev L xs ρ 42 61 [l0, l1, l2, l3] (v.toList ++ []) (n2, I2, L2, R2) r := ev_cR cm_42 [.int x] dX3_readFact_58 rfl rfl rfl rfl (Nat.le_of_ble_eq_true rfl) (Nat.le_of_ble_eq_true rfl)
theorem x42_61 : Ev L xs ρ 42 61 [some (.ref a), l1, l2, l3] st σ r ↔ Ev L xs ρ 42 62 [some (.ref a), l1, l2, l3] (.ref a :: st) σ r := ev_aload_n cm_42 dX3_readFact_61 rfl rfl
theorem x42_62 : Ev L xs ρ 42 62 [l0, l1, l2, l3] st σ r ↔ Ev L xs ρ 42 65 [l0, l1, l2, l3] (.int (349) :: st) σ r := ev_sipush cm_42 dX3_readFact_62 (by decide)
theorem x42_65 : Ev L xs ρ 42 65 [l0, l1, l2, l3] (.int x :: .ref a :: []) (n, I, Lm, Rm) r ↔ (a < n ∧ shp a = (0, 3)) ∧ rka 23 [.ref a, .int x] < ρ ∧ ∃ v n2 I2 L2 R2, Em L xs 23 [.ref a, .int x] (n, I, Lm, Rm) (v, n2, I2, L2, R2) ∧ Ev L xs ρ 42 68 [l0, l1, l2, l3] (v.toList ++ []) (n2, I2, L2, R2) r := ev_cR cm_42 [.int x] dX3_readFact_65 rfl rfl rfl rfl (Nat.le_of_ble_eq_true rfl) (Nat.le_of_ble_eq_true rfl)
theorem x42_68 : Ev L xs ρ 42 68 [l0, l1, l2, l3] st σ r ↔ Ev L xs ρ 42 114 [l0, l1, l2, l3] st σ r := ev_goto cm_42 dX3_readFact_68 (by decide)
theorem x42_71 : Ev L xs ρ 42 71 [some (.ref a), l1, l2, l3] st σ r ↔ Ev L xs ρ 42 72 [some (.ref a), l1, l2, l3] (.ref a :: st) σ r := ev_aload_n cm_42 dX3_readFact_71 rfl rfl
theorem x42_72 : Ev L xs ρ 42 72 [l0, l1, l2, l3] st σ r ↔ Ev L xs ρ 42 74 [l0, l1, l2, l3] (.int (23) :: st) σ r := ev_bipush cm_42 dX3_readFact_72 (by decide)
theorem x42_74 : Ev L xs ρ 42 74 [l0, l1, l2, l3] (.int x :: .ref a :: []) (n, I, Lm, Rm) r ↔ (a < n ∧ shp a = (0, 3)) ∧ rka 22 [.ref a, .int x] < ρ ∧ ∃ v n2 I2 L2 R2, Em L xs 22 [.ref a, .int x] (n, I, Lm, Rm) (v, n2, I2, L2, R2) ∧ Ev L xs ρ 42 77 [l0, l1, l2, l3] (v.toList ++ []) (n2, I2, L2, R2) r := ev_cR cm_42 [.int x] dX3_readFact_74 rfl rfl rfl rfl (Nat.le_of_ble_eq_true rfl) (Nat.le_of_ble_eq_true rfl)
theorem x42_77 : Ev L xs ρ 42 77 [l0, l1, l2, l3] (.int x :: st) σ r ↔ if x = 0 then Ev L xs ρ 42 91 [l0, l1, l2, l3] st σ r else Ev L xs ρ 42 80 [l0, l1, l2, l3] st σ r := ev_ifeq cm_42 dX3_readFact_77 (by decide)
theorem x42_80 : Ev L xs ρ 42 80 [some (.ref a), l1, l2, l3] st σ r ↔ Ev L xs ρ 42 81 [some (.ref a), l1, l2, l3] (.ref a :: st) σ r := ev_aload_n cm_42 dX3_readFact_80 rfl rfl
theorem x42_81 : Ev L xs ρ 42 81 [l0, l1, l2, l3] (.ref a :: st) (n, I, Lm, Rm) r ↔ (a < n ∧ shp a = (0, 3)) ∧ Ev L xs ρ 42 84 [l0, l1, l2, l3] (rfv (Rm a 5) :: st) (n, I, Lm, Rm) r := ev_gtR cm_42 dX3_readFact_81 rfl rfl
theorem x42_84 : Ev L xs ρ 42 84 [l0, l1, l2, l3] st σ r ↔ Ev L xs ρ 42 85 [l0, l1, l2, l3] (.int (1) :: st) σ r := ev_iconst cm_42 dX3_readFact_84 (by decide)
theorem x42_85 : Ev L xs ρ 42 85 [l0, l1, l2, l3] (.int x :: .ref a :: []) (n, I, Lm, Rm) r ↔ (a < n ∧ shp a = (0, 4)) ∧ rka 52 [.ref a, .int x] < ρ ∧ ∃ v n2 I2 L2 R2, Em L xs 52 [.ref a, .int x] (n, I, Lm, Rm) (v, n2, I2, L2, R2) ∧ Ev L xs ρ 42 88 [l0, l1, l2, l3] (v.toList ++ []) (n2, I2, L2, R2) r := ev_cR cm_42 [.int x] dX3_readFact_85 rfl rfl rfl rfl (Nat.le_of_ble_eq_true rfl) (Nat.le_of_ble_eq_true rfl)
theorem x42_88 : Ev L xs ρ 42 88 [l0, l1, l2, l3] st σ r ↔ Ev L xs ρ 42 114 [l0, l1, l2, l3] st σ r := ev_goto cm_42 dX3_readFact_88 (by decide)
theorem x42_91 : Ev L xs ρ 42 91 [some (.ref a), l1, l2, l3] st σ r ↔ Ev L xs ρ 42 92 [some (.ref a), l1, l2, l3] (.ref a :: st) σ r := ev_aload_n cm_42 dX3_readFact_91 rfl rfl
theorem x42_92 : Ev L xs ρ 42 92 [l0, some (.int x), l2, l3] st σ r ↔ Ev L xs ρ 42 93 [l0, some (.int x), l2, l3] (.int x :: st) σ r := ev_iload_n cm_42 dX3_readFact_92 rfl rfl
theorem x42_93 : Ev L xs ρ 42 93 [l0, l1, l2, l3] (.int x :: .ref a :: []) (n, I, Lm, Rm) r ↔ (a < n ∧ shp a = (0, 3)) ∧ rka 45 [.ref a, .int x] < ρ ∧ ∃ v n2 I2 L2 R2, Em L xs 45 [.ref a, .int x] (n, I, Lm, Rm) (v, n2, I2, L2, R2) ∧ Ev L xs ρ 42 96 [l0, l1, l2, l3] (v.toList ++ []) (n2, I2, L2, R2) r := ev_cR cm_42 [.int x] dX3_readFact_93 rfl rfl rfl rfl (Nat.le_of_ble_eq_true rfl) (Nat.le_of_ble_eq_true rfl)
theorem x42_96 : Ev L xs ρ 42 96 [some (.ref a), l1, l2, l3] st σ r ↔ Ev L xs ρ 42 97 [some (.ref a), l1, l2, l3] (.ref a :: st) σ r := ev_aload_n cm_42 dX3_readFact_96 rfl rfl
theorem x42_97 : Ev L xs ρ 42 97 [l0, l1, l2, l3] (.ref a :: []) (n, I, Lm, Rm) r ↔ (a < n ∧ shp a = (0, 3)) ∧ rka 43 [.ref a] < ρ ∧ ∃ v n2 I2 L2 R2, Em L xs 43 [.ref a] (n, I, Lm, Rm) (v, n2, I2, L2, R2) ∧ Ev L xs ρ 42 100 [l0, l1, l2, l3] (v.toList ++ []) (n2, I2, L2, R2) r := ev_cR cm_42 [] dX3_readFact_97 rfl rfl rfl rfl (Nat.le_of_ble_eq_true rfl) (Nat.le_of_ble_eq_true rfl)
theorem x42_100 : Ev L xs ρ 42 100 [l0, l1, l2, l3] (.int x :: st) σ r ↔ Ev L xs ρ 42 101 [l0, l1, l2, some (.int x)] st σ r := ev_istore_n cm_42 dX3_readFact_100 rfl (Nat.le_of_ble_eq_true rfl)
theorem x42_101 : Ev L xs ρ 42 101 [some (.ref a), l1, l2, l3] st σ r ↔ Ev L xs ρ 42 102 [some (.ref a), l1, l2, l3] (.ref a :: st) σ r := ev_aload_n cm_42 dX3_readFact_101 rfl rfl
theorem x42_102 : Ev L xs ρ 42 102 [l0, some (.int x), l2, l3] st σ r ↔ Ev L xs ρ 42 103 [l0, some (.int x), l2, l3] (.int x :: st) σ r := ev_iload_n cm_42 dX3_readFact_102 rfl rfl
theorem x42_103 : Ev L xs ρ 42 103 [l0, l1, l2, l3] (.int x :: .ref a :: []) (n, I, Lm, Rm) r ↔ (a < n ∧ shp a = (0, 3)) ∧ rka 45 [.ref a, .int x] < ρ ∧ ∃ v n2 I2 L2 R2, Em L xs 45 [.ref a, .int x] (n, I, Lm, Rm) (v, n2, I2, L2, R2) ∧ Ev L xs ρ 42 106 [l0, l1, l2, l3] (v.toList ++ []) (n2, I2, L2, R2) r := ev_cR cm_42 [.int x] dX3_readFact_103 rfl rfl rfl rfl (Nat.le_of_ble_eq_true rfl) (Nat.le_of_ble_eq_true rfl)
theorem x42_106 : Ev L xs ρ 42 106 [some (.ref a), l1, l2, l3] st σ r ↔ Ev L xs ρ 42 107 [some (.ref a), l1, l2, l3] (.ref a :: st) σ r := ev_aload_n cm_42 dX3_readFact_106 rfl rfl
theorem x42_107 : Ev L xs ρ 42 107 [l0, l1, l2, l3] (.ref a :: st) (n, I, Lm, Rm) r ↔ (a < n ∧ shp a = (0, 3)) ∧ Ev L xs ρ 42 110 [l0, l1, l2, l3] (rfv (Rm a 5) :: st) (n, I, Lm, Rm) r := ev_gtR cm_42 dX3_readFact_107 rfl rfl
theorem x42_110 : Ev L xs ρ 42 110 [l0, l1, l2, some (.int x)] st σ r ↔ Ev L xs ρ 42 111 [l0, l1, l2, some (.int x)] (.int x :: st) σ r := ev_iload_n cm_42 dX3_readFact_110 rfl rfl
theorem x42_111 : Ev L xs ρ 42 111 [l0, l1, l2, l3] (.int x :: .ref a :: []) (n, I, Lm, Rm) r ↔ (a < n ∧ shp a = (0, 4)) ∧ rka 52 [.ref a, .int x] < ρ ∧ ∃ v n2 I2 L2 R2, Em L xs 52 [.ref a, .int x] (n, I, Lm, Rm) (v, n2, I2, L2, R2) ∧ Ev L xs ρ 42 114 [l0, l1, l2, l3] (v.toList ++ []) (n2, I2, L2, R2) r := ev_cR cm_42 [.int x] dX3_readFact_111 rfl rfl rfl rfl (Nat.le_of_ble_eq_true rfl) (Nat.le_of_ble_eq_true rfl)
theorem x42_114 : Ev L xs ρ 42 114 [l0, l1, l2, l3] [] σ r ↔ r = (none, σ) := ev_retv cm_42 dX3_readFact_114 rfl
theorem cm_43 : mcd 43 = cX3_readCompare := rfl
theorem em_43 : Em L xs 43 [.ref a] σ r ↔ Ev L xs 3 43 0 [some (.ref a)] [] σ r := Iff.rfl
theorem x43_0 : Ev L xs ρ 43 0 [some (.ref a)] st σ r ↔ Ev L xs ρ 43 1 [some (.ref a)] (.ref a :: st) σ r := ev_aload_n cm_43 dX3_readCompare_0 rfl rfl
theorem x43_1 : Ev L xs ρ 43 1 [l0] st σ r ↔ Ev L xs ρ 43 4 [l0] (.int (316) :: st) σ r := ev_sipush cm_43 dX3_readCompare_1 (by decide)
theorem x43_4 : Ev L xs 3 43 4 [l0] (.int x :: .ref a :: []) (n, I, Lm, Rm) r ↔ (a < n ∧ shp a = (0, 3)) ∧ ∃ v n2 I2 L2 R2, Em L xs 22 [.ref a, .int x] (n, I, Lm, Rm) (v, n2, I2, L2, R2) ∧ Ev L xs 3 43 7 [l0] (v.toList ++ []) (n2, I2, L2, R2) r := ev_cV cm_43 [.int x] dX3_readCompare_4 rfl rfl rfl rfl (Nat.le_of_ble_eq_true rfl) (rka_lt rfl (by decide)) (Nat.le_of_ble_eq_true rfl)
theorem x43_7 : Ev L xs ρ 43 7 [l0] (.int x :: st) σ r ↔ if x = 0 then Ev L xs ρ 43 14 [l0] st σ r else Ev L xs ρ 43 10 [l0] st σ r := ev_ifeq cm_43 dX3_readCompare_7 (by decide)
theorem x43_10 : Ev L xs ρ 43 10 [l0] st σ r ↔ Ev L xs ρ 43 13 [l0] (.int (10017) :: st) σ r := ev_sipush cm_43 dX3_readCompare_10 (by decide)
theorem x43_13 : Ev L xs ρ 43 13 [l0] [.int x] σ r ↔ r = (some (.int x), σ) := ev_reti cm_43 dX3_readCompare_13 rfl
theorem x43_14 : Ev L xs ρ 43 14 [some (.ref a)] st σ r ↔ Ev L xs ρ 43 15 [some (.ref a)] (.ref a :: st) σ r := ev_aload_n cm_43 dX3_readCompare_14 rfl rfl
theorem x43_15 : Ev L xs ρ 43 15 [l0] st σ r ↔ Ev L xs ρ 43 18 [l0] (.int (318) :: st) σ r := ev_sipush cm_43 dX3_readCompare_15 (by decide)
theorem x43_18 : Ev L xs 3 43 18 [l0] (.int x :: .ref a :: []) (n, I, Lm, Rm) r ↔ (a < n ∧ shp a = (0, 3)) ∧ ∃ v n2 I2 L2 R2, Em L xs 22 [.ref a, .int x] (n, I, Lm, Rm) (v, n2, I2, L2, R2) ∧ Ev L xs 3 43 21 [l0] (v.toList ++ []) (n2, I2, L2, R2) r := ev_cV cm_43 [.int x] dX3_readCompare_18 rfl rfl rfl rfl (Nat.le_of_ble_eq_true rfl) (rka_lt rfl (by decide)) (Nat.le_of_ble_eq_true rfl)
theorem x43_21 : Ev L xs ρ 43 21 [l0] (.int x :: st) σ r ↔ if x = 0 then Ev L xs ρ 43 28 [l0] st σ r else Ev L xs ρ 43 24 [l0] st σ r := ev_ifeq cm_43 dX3_readCompare_21 (by decide)
theorem x43_24 : Ev L xs ρ 43 24 [l0] st σ r ↔ Ev L xs ρ 43 27 [l0] (.int (10018) :: st) σ r := ev_sipush cm_43 dX3_readCompare_24 (by decide)
theorem x43_27 : Ev L xs ρ 43 27 [l0] [.int x] σ r ↔ r = (some (.int x), σ) := ev_reti cm_43 dX3_readCompare_27 rfl
theorem x43_28 : Ev L xs ρ 43 28 [some (.ref a)] st σ r ↔ Ev L xs ρ 43 29 [some (.ref a)] (.ref a :: st) σ r := ev_aload_n cm_43 dX3_readCompare_28 rfl rfl
theorem x43_29 : Ev L xs ρ 43 29 [l0] st σ r ↔ Ev L xs ρ 43 32 [l0] (.int (317) :: st) σ r := ev_sipush cm_43 dX3_readCompare_29 (by decide)
theorem x43_32 : Ev L xs 3 43 32 [l0] (.int x :: .ref a :: []) (n, I, Lm, Rm) r ↔ (a < n ∧ shp a = (0, 3)) ∧ ∃ v n2 I2 L2 R2, Em L xs 23 [.ref a, .int x] (n, I, Lm, Rm) (v, n2, I2, L2, R2) ∧ Ev L xs 3 43 35 [l0] (v.toList ++ []) (n2, I2, L2, R2) r := ev_cV cm_43 [.int x] dX3_readCompare_32 rfl rfl rfl rfl (Nat.le_of_ble_eq_true rfl) (rka_lt rfl (by decide)) (Nat.le_of_ble_eq_true rfl)
theorem x43_35 : Ev L xs ρ 43 35 [l0] st σ r ↔ Ev L xs ρ 43 38 [l0] (.int (10019) :: st) σ r := ev_sipush cm_43 dX3_readCompare_35 (by decide)
theorem x43_38 : Ev L xs ρ 43 38 [l0] [.int x] σ r ↔ r = (some (.int x), σ) := ev_reti cm_43 dX3_readCompare_38 rfl
theorem cm_44 : mcd 44 = cX3_opens := rfl
theorem em_44 : Em L xs 44 [.ref a, .int x] σ r ↔ Ev L xs 2 44 0 [some (.ref a), some (.int x)] [] σ r := Iff.rfl
theorem x44_0 : Ev L xs ρ 44 0 [l0, some (.int x)] st σ r ↔ Ev L xs ρ 44 1 [l0, some (.int x)] (.int x :: st) σ r := ev_iload_n cm_44 dX3_opens_0 rfl rfl
theorem x44_1 : Ev L xs ρ 44 1 [l0, l1] st σ r ↔ Ev L xs ρ 44 3 [l0, l1] (.int (6) :: st) σ r := ev_bipush cm_44 dX3_opens_1 (by decide)
theorem x44_3 : Ev L xs ρ 44 3 [l0, l1] (.int y :: .int x :: st) σ r ↔ if x < y then Ev L xs ρ 44 12 [l0, l1] st σ r else Ev L xs ρ 44 6 [l0, l1] st σ r := ev_iclt cm_44 dX3_opens_3 (by decide)
theorem x44_6 : Ev L xs ρ 44 6 [some (.ref a), l1] st σ r ↔ Ev L xs ρ 44 7 [some (.ref a), l1] (.ref a :: st) σ r := ev_aload_n cm_44 dX3_opens_6 rfl rfl
theorem x44_7 : Ev L xs ρ 44 7 [l0, l1] st σ r ↔ Ev L xs ρ 44 8 [l0, l1] (.int (4) :: st) σ r := ev_iconst cm_44 dX3_opens_7 (by decide)
theorem x44_8 : Ev L xs ρ 44 8 [l0, l1] st σ r ↔ Ev L xs ρ 44 9 [l0, l1] (.int (0) :: st) σ r := ev_iconst cm_44 dX3_opens_8 (by decide)
theorem x44_9 : Ev L xs 2 44 9 [l0, l1] (.int y :: .int x :: .ref a :: []) (n, I, Lm, Rm) r ↔ (a < n ∧ shp a = (0, 3)) ∧ ∃ v n2 I2 L2 R2, Em L xs 21 [.ref a, .int x, .int y] (n, I, Lm, Rm) (v, n2, I2, L2, R2) ∧ Ev L xs 2 44 12 [l0, l1] (v.toList ++ []) (n2, I2, L2, R2) r := ev_cV cm_44 [.int x, .int y] dX3_opens_9 rfl rfl rfl rfl (Nat.le_of_ble_eq_true rfl) (rka_lt rfl (by decide)) (Nat.le_of_ble_eq_true rfl)
theorem x44_12 : Ev L xs ρ 44 12 [some (.ref a), l1] st σ r ↔ Ev L xs ρ 44 13 [some (.ref a), l1] (.ref a :: st) σ r := ev_aload_n cm_44 dX3_opens_12 rfl rfl
theorem x44_13 : Ev L xs ρ 44 13 [l0, l1] (.ref a :: st) σ r ↔ Ev L xs ρ 44 14 [l0, l1] (.ref a :: .ref a :: st) σ r := ev_nx (ev_ex cm_44 dX3_opens_13 rfl rfl)
theorem x44_14 : Ev L xs ρ 44 14 [l0, l1] (.ref a :: st) (n, I, Lm, Rm) r ↔ (a < n ∧ shp a = (0, 3)) ∧ Ev L xs ρ 44 17 [l0, l1] (.int (I a 6) :: st) (n, I, Lm, Rm) r := ev_gtI cm_44 dX3_opens_14 rfl rfl
theorem x44_17 : Ev L xs ρ 44 17 [l0, l1] st σ r ↔ Ev L xs ρ 44 18 [l0, l1] (.int (1) :: st) σ r := ev_iconst cm_44 dX3_opens_17 (by decide)
theorem x44_18 : Ev L xs ρ 44 18 [l0, l1] (.int y :: .int x :: st) σ r ↔ Ev L xs ρ 44 19 [l0, l1] (.int (x + y) :: st) σ r := ev_nx (ev_ex cm_44 dX3_opens_18 rfl rfl)
theorem x44_19 : Ev L xs ρ 44 19 [l0, l1] (.int x :: .ref a :: st) (n, I, Lm, Rm) r ↔ (a < n ∧ shp a = (0, 3)) ∧ Ev L xs ρ 44 22 [l0, l1] st (n, up2 I a 6 x, Lm, Rm) r := ev_ptI cm_44 dX3_opens_19 rfl rfl (Or.inl rfl)
theorem x44_22 : Ev L xs ρ 44 22 [some (.ref a), l1] st σ r ↔ Ev L xs ρ 44 23 [some (.ref a), l1] (.ref a :: st) σ r := ev_aload_n cm_44 dX3_opens_22 rfl rfl
theorem x44_23 : Ev L xs 2 44 23 [l0, l1] (.ref a :: []) (n, I, Lm, Rm) r ↔ (a < n ∧ shp a = (0, 3)) ∧ ∃ v n2 I2 L2 R2, Em L xs 18 [.ref a] (n, I, Lm, Rm) (v, n2, I2, L2, R2) ∧ Ev L xs 2 44 26 [l0, l1] (v.toList ++ []) (n2, I2, L2, R2) r := ev_cV cm_44 [] dX3_opens_23 rfl rfl rfl rfl (Nat.le_of_ble_eq_true rfl) (rka_lt rfl (by decide)) (Nat.le_of_ble_eq_true rfl)
theorem x44_26 : Ev L xs ρ 44 26 [l0, l1] [.int x] σ r ↔ (x = 0 ∨ x = 1) ∧ r = (some (.int x), σ) := ev_retz cm_44 dX3_opens_26 rfl
theorem cm_45 : mcd 45 = cX3_readSum := rfl
theorem em_45 : Em L xs 45 [.ref a, .int x] σ r ↔ Ev L xs (7 + 8 * (8 - ixn x)) 45 0 [some (.ref a), some (.int x), none] [] σ r := Iff.rfl
theorem x45_0 : Ev L xs ρ 45 0 [some (.ref a), l1, l2] st σ r ↔ Ev L xs ρ 45 1 [some (.ref a), l1, l2] (.ref a :: st) σ r := ev_aload_n cm_45 dX3_readSum_0 rfl rfl
theorem x45_1 : Ev L xs ρ 45 1 [l0, some (.int x), l2] st σ r ↔ Ev L xs ρ 45 2 [l0, some (.int x), l2] (.int x :: st) σ r := ev_iload_n cm_45 dX3_readSum_1 rfl rfl
theorem x45_2 : Ev L xs ρ 45 2 [l0, l1, l2] (.int x :: .ref a :: []) (n, I, Lm, Rm) r ↔ (a < n ∧ shp a = (0, 3)) ∧ rka 46 [.ref a, .int x] < ρ ∧ ∃ v n2 I2 L2 R2, Em L xs 46 [.ref a, .int x] (n, I, Lm, Rm) (v, n2, I2, L2, R2) ∧ Ev L xs ρ 45 5 [l0, l1, l2] (v.toList ++ []) (n2, I2, L2, R2) r := ev_cR cm_45 [.int x] dX3_readSum_2 rfl rfl rfl rfl (Nat.le_of_ble_eq_true rfl) (Nat.le_of_ble_eq_true rfl)
theorem x45_5 : Ev L xs ρ 45 5 [l0, l1, l2] st σ r ↔ Ev L xs ρ 45 6 [l0, l1, l2] (.int (0) :: st) σ r := ev_iconst cm_45 dX3_readSum_5 (by decide)
theorem x45_6 : Ev L xs ρ 45 6 [l0, l1, l2] (.int x :: st) σ r ↔ Ev L xs ρ 45 7 [l0, l1, some (.int x)] st σ r := ev_istore_n cm_45 dX3_readSum_6 rfl (Nat.le_of_ble_eq_true rfl)
theorem x45_7 : Ev L xs ρ 45 7 [l0, l1, some (.int x)] st σ r ↔ Ev L xs ρ 45 8 [l0, l1, some (.int x)] (.int x :: st) σ r := ev_iload_n cm_45 dX3_readSum_7 rfl rfl
theorem x45_8 : Ev L xs ρ 45 8 [l0, l1, l2] st σ r ↔ Ev L xs ρ 45 11 [l0, l1, l2] (.int (1600) :: st) σ r := ev_sipush cm_45 dX3_readSum_8 (by decide)
theorem x45_11 : Ev L xs ρ 45 11 [l0, l1, l2] (.int y :: .int x :: st) σ r ↔ if y ≤ x then Ev L xs ρ 45 84 [l0, l1, l2] st σ r else Ev L xs ρ 45 14 [l0, l1, l2] st σ r := ev_icge cm_45 dX3_readSum_11 (by decide)
theorem x45_14 : Ev L xs ρ 45 14 [some (.ref a), l1, l2] st σ r ↔ Ev L xs ρ 45 15 [some (.ref a), l1, l2] (.ref a :: st) σ r := ev_aload_n cm_45 dX3_readSum_14 rfl rfl
theorem x45_15 : Ev L xs ρ 45 15 [l0, l1, l2] (.ref a :: []) (n, I, Lm, Rm) r ↔ (a < n ∧ shp a = (0, 3)) ∧ rka 18 [.ref a] < ρ ∧ ∃ v n2 I2 L2 R2, Em L xs 18 [.ref a] (n, I, Lm, Rm) (v, n2, I2, L2, R2) ∧ Ev L xs ρ 45 18 [l0, l1, l2] (v.toList ++ []) (n2, I2, L2, R2) r := ev_cR cm_45 [] dX3_readSum_15 rfl rfl rfl rfl (Nat.le_of_ble_eq_true rfl) (Nat.le_of_ble_eq_true rfl)
theorem x45_18 : Ev L xs ρ 45 18 [l0, l1, l2] (.int x :: st) σ r ↔ if x = 0 then Ev L xs ρ 45 84 [l0, l1, l2] st σ r else Ev L xs ρ 45 21 [l0, l1, l2] st σ r := ev_ifeq cm_45 dX3_readSum_18 (by decide)
theorem x45_21 : Ev L xs ρ 45 21 [some (.ref a), l1, l2] st σ r ↔ Ev L xs ρ 45 22 [some (.ref a), l1, l2] (.ref a :: st) σ r := ev_aload_n cm_45 dX3_readSum_21 rfl rfl
theorem x45_22 : Ev L xs ρ 45 22 [l0, l1, l2] st σ r ↔ Ev L xs ρ 45 25 [l0, l1, l2] (.int (299) :: st) σ r := ev_sipush cm_45 dX3_readSum_22 (by decide)
theorem x45_25 : Ev L xs ρ 45 25 [l0, l1, l2] (.int x :: .ref a :: []) (n, I, Lm, Rm) r ↔ (a < n ∧ shp a = (0, 3)) ∧ rka 22 [.ref a, .int x] < ρ ∧ ∃ v n2 I2 L2 R2, Em L xs 22 [.ref a, .int x] (n, I, Lm, Rm) (v, n2, I2, L2, R2) ∧ Ev L xs ρ 45 28 [l0, l1, l2] (v.toList ++ []) (n2, I2, L2, R2) r := ev_cR cm_45 [.int x] dX3_readSum_25 rfl rfl rfl rfl (Nat.le_of_ble_eq_true rfl) (Nat.le_of_ble_eq_true rfl)
theorem x45_28 : Ev L xs ρ 45 28 [l0, l1, l2] (.int x :: st) σ r ↔ if x = 0 then Ev L xs ρ 45 49 [l0, l1, l2] st σ r else Ev L xs ρ 45 31 [l0, l1, l2] st σ r := ev_ifeq cm_45 dX3_readSum_28 (by decide)
theorem x45_31 : Ev L xs ρ 45 31 [some (.ref a), l1, l2] st σ r ↔ Ev L xs ρ 45 32 [some (.ref a), l1, l2] (.ref a :: st) σ r := ev_aload_n cm_45 dX3_readSum_31 rfl rfl
theorem x45_32 : Ev L xs ρ 45 32 [l0, some (.int x), l2] st σ r ↔ Ev L xs ρ 45 33 [l0, some (.int x), l2] (.int x :: st) σ r := ev_iload_n cm_45 dX3_readSum_32 rfl rfl
theorem x45_33 : Ev L xs ρ 45 33 [l0, l1, l2] (.int x :: .ref a :: []) (n, I, Lm, Rm) r ↔ (a < n ∧ shp a = (0, 3)) ∧ rka 46 [.ref a, .int x] < ρ ∧ ∃ v n2 I2 L2 R2, Em L xs 46 [.ref a, .int x] (n, I, Lm, Rm) (v, n2, I2, L2, R2) ∧ Ev L xs ρ 45 36 [l0, l1, l2] (v.toList ++ []) (n2, I2, L2, R2) r := ev_cR cm_45 [.int x] dX3_readSum_33 rfl rfl rfl rfl (Nat.le_of_ble_eq_true rfl) (Nat.le_of_ble_eq_true rfl)
theorem x45_36 : Ev L xs ρ 45 36 [some (.ref a), l1, l2] st σ r ↔ Ev L xs ρ 45 37 [some (.ref a), l1, l2] (.ref a :: st) σ r := ev_aload_n cm_45 dX3_readSum_36 rfl rfl
theorem x45_37 : Ev L xs ρ 45 37 [l0, l1, l2] (.ref a :: st) (n, I, Lm, Rm) r ↔ (a < n ∧ shp a = (0, 3)) ∧ Ev L xs ρ 45 40 [l0, l1, l2] (rfv (Rm a 5) :: st) (n, I, Lm, Rm) r := ev_gtR cm_45 dX3_readSum_37 rfl rfl
theorem x45_40 : Ev L xs ρ 45 40 [l0, l1, l2] st σ r ↔ Ev L xs ρ 45 43 [l0, l1, l2] (.int (10011) :: st) σ r := ev_sipush cm_45 dX3_readSum_40 (by decide)
theorem x45_43 : Ev L xs ρ 45 43 [l0, l1, l2] (.int x :: .ref a :: []) (n, I, Lm, Rm) r ↔ (a < n ∧ shp a = (0, 4)) ∧ rka 52 [.ref a, .int x] < ρ ∧ ∃ v n2 I2 L2 R2, Em L xs 52 [.ref a, .int x] (n, I, Lm, Rm) (v, n2, I2, L2, R2) ∧ Ev L xs ρ 45 46 [l0, l1, l2] (v.toList ++ []) (n2, I2, L2, R2) r := ev_cR cm_45 [.int x] dX3_readSum_43 rfl rfl rfl rfl (Nat.le_of_ble_eq_true rfl) (Nat.le_of_ble_eq_true rfl)
theorem x45_46 : Ev L xs ρ 45 46 [l0, l1, l2] st σ r ↔ Ev L xs ρ 45 78 [l0, l1, l2] st σ r := ev_goto cm_45 dX3_readSum_46 (by decide)
theorem x45_49 : Ev L xs ρ 45 49 [some (.ref a), l1, l2] st σ r ↔ Ev L xs ρ 45 50 [some (.ref a), l1, l2] (.ref a :: st) σ r := ev_aload_n cm_45 dX3_readSum_49 rfl rfl
theorem x45_50 : Ev L xs ρ 45 50 [l0, l1, l2] st σ r ↔ Ev L xs ρ 45 53 [l0, l1, l2] (.int (301) :: st) σ r := ev_sipush cm_45 dX3_readSum_50 (by decide)
theorem x45_53 : Ev L xs ρ 45 53 [l0, l1, l2] (.int x :: .ref a :: []) (n, I, Lm, Rm) r ↔ (a < n ∧ shp a = (0, 3)) ∧ rka 22 [.ref a, .int x] < ρ ∧ ∃ v n2 I2 L2 R2, Em L xs 22 [.ref a, .int x] (n, I, Lm, Rm) (v, n2, I2, L2, R2) ∧ Ev L xs ρ 45 56 [l0, l1, l2] (v.toList ++ []) (n2, I2, L2, R2) r := ev_cR cm_45 [.int x] dX3_readSum_53 rfl rfl rfl rfl (Nat.le_of_ble_eq_true rfl) (Nat.le_of_ble_eq_true rfl)
theorem x45_56 : Ev L xs ρ 45 56 [l0, l1, l2] (.int x :: st) σ r ↔ if x = 0 then Ev L xs ρ 45 77 [l0, l1, l2] st σ r else Ev L xs ρ 45 59 [l0, l1, l2] st σ r := ev_ifeq cm_45 dX3_readSum_56 (by decide)
theorem x45_59 : Ev L xs ρ 45 59 [some (.ref a), l1, l2] st σ r ↔ Ev L xs ρ 45 60 [some (.ref a), l1, l2] (.ref a :: st) σ r := ev_aload_n cm_45 dX3_readSum_59 rfl rfl
theorem x45_60 : Ev L xs ρ 45 60 [l0, some (.int x), l2] st σ r ↔ Ev L xs ρ 45 61 [l0, some (.int x), l2] (.int x :: st) σ r := ev_iload_n cm_45 dX3_readSum_60 rfl rfl
theorem x45_61 : Ev L xs ρ 45 61 [l0, l1, l2] (.int x :: .ref a :: []) (n, I, Lm, Rm) r ↔ (a < n ∧ shp a = (0, 3)) ∧ rka 46 [.ref a, .int x] < ρ ∧ ∃ v n2 I2 L2 R2, Em L xs 46 [.ref a, .int x] (n, I, Lm, Rm) (v, n2, I2, L2, R2) ∧ Ev L xs ρ 45 64 [l0, l1, l2] (v.toList ++ []) (n2, I2, L2, R2) r := ev_cR cm_45 [.int x] dX3_readSum_61 rfl rfl rfl rfl (Nat.le_of_ble_eq_true rfl) (Nat.le_of_ble_eq_true rfl)
theorem x45_64 : Ev L xs ρ 45 64 [some (.ref a), l1, l2] st σ r ↔ Ev L xs ρ 45 65 [some (.ref a), l1, l2] (.ref a :: st) σ r := ev_aload_n cm_45 dX3_readSum_64 rfl rfl
theorem x45_65 : Ev L xs ρ 45 65 [l0, l1, l2] (.ref a :: st) (n, I, Lm, Rm) r ↔ (a < n ∧ shp a = (0, 3)) ∧ Ev L xs ρ 45 68 [l0, l1, l2] (rfv (Rm a 5) :: st) (n, I, Lm, Rm) r := ev_gtR cm_45 dX3_readSum_65 rfl rfl
theorem x45_68 : Ev L xs ρ 45 68 [l0, l1, l2] st σ r ↔ Ev L xs ρ 45 71 [l0, l1, l2] (.int (10012) :: st) σ r := ev_sipush cm_45 dX3_readSum_68 (by decide)
theorem x45_71 : Ev L xs ρ 45 71 [l0, l1, l2] (.int x :: .ref a :: []) (n, I, Lm, Rm) r ↔ (a < n ∧ shp a = (0, 4)) ∧ rka 52 [.ref a, .int x] < ρ ∧ ∃ v n2 I2 L2 R2, Em L xs 52 [.ref a, .int x] (n, I, Lm, Rm) (v, n2, I2, L2, R2) ∧ Ev L xs ρ 45 74 [l0, l1, l2] (v.toList ++ []) (n2, I2, L2, R2) r := ev_cR cm_45 [.int x] dX3_readSum_71 rfl rfl rfl rfl (Nat.le_of_ble_eq_true rfl) (Nat.le_of_ble_eq_true rfl)
theorem x45_74 : Ev L xs ρ 45 74 [l0, l1, l2] st σ r ↔ Ev L xs ρ 45 78 [l0, l1, l2] st σ r := ev_goto cm_45 dX3_readSum_74 (by decide)
theorem x45_77 : Ev L xs ρ 45 77 [l0, l1, l2] [] σ r ↔ r = (none, σ) := ev_retv cm_45 dX3_readSum_77 rfl
theorem x45_78 : Ev L xs ρ 45 78 [l0, l1, some (.int x)] st σ r ↔ Ev L xs ρ 45 81 [l0, l1, some (.int (x + (1)))] st σ r := ev_iinc cm_45 dX3_readSum_78 rfl (by decide)
theorem x45_81 : Ev L xs ρ 45 81 [l0, l1, l2] st σ r ↔ Ev L xs ρ 45 7 [l0, l1, l2] st σ r := ev_goto cm_45 dX3_readSum_81 (by decide)
theorem x45_84 : Ev L xs ρ 45 84 [l0, l1, l2] [] σ r ↔ r = (none, σ) := ev_retv cm_45 dX3_readSum_84 rfl
theorem cm_46 : mcd 46 = cX3_readProduct := rfl
theorem em_46 : Em L xs 46 [.ref a, .int x] σ r ↔ Ev L xs (6 + 8 * (8 - ixn x)) 46 0 [some (.ref a), some (.int x), none] [] σ r := Iff.rfl
theorem x46_0 : Ev L xs ρ 46 0 [some (.ref a), l1, l2] st σ r ↔ Ev L xs ρ 46 1 [some (.ref a), l1, l2] (.ref a :: st) σ r := ev_aload_n cm_46 dX3_readProduct_0 rfl rfl
theorem x46_1 : Ev L xs ρ 46 1 [l0, some (.int x), l2] st σ r ↔ Ev L xs ρ 46 2 [l0, some (.int x), l2] (.int x :: st) σ r := ev_iload_n cm_46 dX3_readProduct_1 rfl rfl
theorem x46_2 : Ev L xs ρ 46 2 [l0, l1, l2] (.int x :: .ref a :: []) (n, I, Lm, Rm) r ↔ (a < n ∧ shp a = (0, 3)) ∧ rka 47 [.ref a, .int x] < ρ ∧ ∃ v n2 I2 L2 R2, Em L xs 47 [.ref a, .int x] (n, I, Lm, Rm) (v, n2, I2, L2, R2) ∧ Ev L xs ρ 46 5 [l0, l1, l2] (v.toList ++ []) (n2, I2, L2, R2) r := ev_cR cm_46 [.int x] dX3_readProduct_2 rfl rfl rfl rfl (Nat.le_of_ble_eq_true rfl) (Nat.le_of_ble_eq_true rfl)
theorem x46_5 : Ev L xs ρ 46 5 [l0, l1, l2] st σ r ↔ Ev L xs ρ 46 6 [l0, l1, l2] (.int (0) :: st) σ r := ev_iconst cm_46 dX3_readProduct_5 (by decide)
theorem x46_6 : Ev L xs ρ 46 6 [l0, l1, l2] (.int x :: st) σ r ↔ Ev L xs ρ 46 7 [l0, l1, some (.int x)] st σ r := ev_istore_n cm_46 dX3_readProduct_6 rfl (Nat.le_of_ble_eq_true rfl)
theorem x46_7 : Ev L xs ρ 46 7 [l0, l1, some (.int x)] st σ r ↔ Ev L xs ρ 46 8 [l0, l1, some (.int x)] (.int x :: st) σ r := ev_iload_n cm_46 dX3_readProduct_7 rfl rfl
theorem x46_8 : Ev L xs ρ 46 8 [l0, l1, l2] st σ r ↔ Ev L xs ρ 46 11 [l0, l1, l2] (.int (1600) :: st) σ r := ev_sipush cm_46 dX3_readProduct_8 (by decide)
theorem x46_11 : Ev L xs ρ 46 11 [l0, l1, l2] (.int y :: .int x :: st) σ r ↔ if y ≤ x then Ev L xs ρ 46 84 [l0, l1, l2] st σ r else Ev L xs ρ 46 14 [l0, l1, l2] st σ r := ev_icge cm_46 dX3_readProduct_11 (by decide)
theorem x46_14 : Ev L xs ρ 46 14 [some (.ref a), l1, l2] st σ r ↔ Ev L xs ρ 46 15 [some (.ref a), l1, l2] (.ref a :: st) σ r := ev_aload_n cm_46 dX3_readProduct_14 rfl rfl
theorem x46_15 : Ev L xs ρ 46 15 [l0, l1, l2] (.ref a :: []) (n, I, Lm, Rm) r ↔ (a < n ∧ shp a = (0, 3)) ∧ rka 18 [.ref a] < ρ ∧ ∃ v n2 I2 L2 R2, Em L xs 18 [.ref a] (n, I, Lm, Rm) (v, n2, I2, L2, R2) ∧ Ev L xs ρ 46 18 [l0, l1, l2] (v.toList ++ []) (n2, I2, L2, R2) r := ev_cR cm_46 [] dX3_readProduct_15 rfl rfl rfl rfl (Nat.le_of_ble_eq_true rfl) (Nat.le_of_ble_eq_true rfl)
theorem x46_18 : Ev L xs ρ 46 18 [l0, l1, l2] (.int x :: st) σ r ↔ if x = 0 then Ev L xs ρ 46 84 [l0, l1, l2] st σ r else Ev L xs ρ 46 21 [l0, l1, l2] st σ r := ev_ifeq cm_46 dX3_readProduct_18 (by decide)
theorem x46_21 : Ev L xs ρ 46 21 [some (.ref a), l1, l2] st σ r ↔ Ev L xs ρ 46 22 [some (.ref a), l1, l2] (.ref a :: st) σ r := ev_aload_n cm_46 dX3_readProduct_21 rfl rfl
theorem x46_22 : Ev L xs ρ 46 22 [l0, l1, l2] st σ r ↔ Ev L xs ρ 46 25 [l0, l1, l2] (.int (298) :: st) σ r := ev_sipush cm_46 dX3_readProduct_22 (by decide)
theorem x46_25 : Ev L xs ρ 46 25 [l0, l1, l2] (.int x :: .ref a :: []) (n, I, Lm, Rm) r ↔ (a < n ∧ shp a = (0, 3)) ∧ rka 22 [.ref a, .int x] < ρ ∧ ∃ v n2 I2 L2 R2, Em L xs 22 [.ref a, .int x] (n, I, Lm, Rm) (v, n2, I2, L2, R2) ∧ Ev L xs ρ 46 28 [l0, l1, l2] (v.toList ++ []) (n2, I2, L2, R2) r := ev_cR cm_46 [.int x] dX3_readProduct_25 rfl rfl rfl rfl (Nat.le_of_ble_eq_true rfl) (Nat.le_of_ble_eq_true rfl)
theorem x46_28 : Ev L xs ρ 46 28 [l0, l1, l2] (.int x :: st) σ r ↔ if x = 0 then Ev L xs ρ 46 49 [l0, l1, l2] st σ r else Ev L xs ρ 46 31 [l0, l1, l2] st σ r := ev_ifeq cm_46 dX3_readProduct_28 (by decide)
theorem x46_31 : Ev L xs ρ 46 31 [some (.ref a), l1, l2] st σ r ↔ Ev L xs ρ 46 32 [some (.ref a), l1, l2] (.ref a :: st) σ r := ev_aload_n cm_46 dX3_readProduct_31 rfl rfl
theorem x46_32 : Ev L xs ρ 46 32 [l0, some (.int x), l2] st σ r ↔ Ev L xs ρ 46 33 [l0, some (.int x), l2] (.int x :: st) σ r := ev_iload_n cm_46 dX3_readProduct_32 rfl rfl
theorem x46_33 : Ev L xs ρ 46 33 [l0, l1, l2] (.int x :: .ref a :: []) (n, I, Lm, Rm) r ↔ (a < n ∧ shp a = (0, 3)) ∧ rka 47 [.ref a, .int x] < ρ ∧ ∃ v n2 I2 L2 R2, Em L xs 47 [.ref a, .int x] (n, I, Lm, Rm) (v, n2, I2, L2, R2) ∧ Ev L xs ρ 46 36 [l0, l1, l2] (v.toList ++ []) (n2, I2, L2, R2) r := ev_cR cm_46 [.int x] dX3_readProduct_33 rfl rfl rfl rfl (Nat.le_of_ble_eq_true rfl) (Nat.le_of_ble_eq_true rfl)
theorem x46_36 : Ev L xs ρ 46 36 [some (.ref a), l1, l2] st σ r ↔ Ev L xs ρ 46 37 [some (.ref a), l1, l2] (.ref a :: st) σ r := ev_aload_n cm_46 dX3_readProduct_36 rfl rfl
theorem x46_37 : Ev L xs ρ 46 37 [l0, l1, l2] (.ref a :: st) (n, I, Lm, Rm) r ↔ (a < n ∧ shp a = (0, 3)) ∧ Ev L xs ρ 46 40 [l0, l1, l2] (rfv (Rm a 5) :: st) (n, I, Lm, Rm) r := ev_gtR cm_46 dX3_readProduct_37 rfl rfl
theorem x46_40 : Ev L xs ρ 46 40 [l0, l1, l2] st σ r ↔ Ev L xs ρ 46 43 [l0, l1, l2] (.int (10013) :: st) σ r := ev_sipush cm_46 dX3_readProduct_40 (by decide)
theorem x46_43 : Ev L xs ρ 46 43 [l0, l1, l2] (.int x :: .ref a :: []) (n, I, Lm, Rm) r ↔ (a < n ∧ shp a = (0, 4)) ∧ rka 52 [.ref a, .int x] < ρ ∧ ∃ v n2 I2 L2 R2, Em L xs 52 [.ref a, .int x] (n, I, Lm, Rm) (v, n2, I2, L2, R2) ∧ Ev L xs ρ 46 46 [l0, l1, l2] (v.toList ++ []) (n2, I2, L2, R2) r := ev_cR cm_46 [.int x] dX3_readProduct_43 rfl rfl rfl rfl (Nat.le_of_ble_eq_true rfl) (Nat.le_of_ble_eq_true rfl)
theorem x46_46 : Ev L xs ρ 46 46 [l0, l1, l2] st σ r ↔ Ev L xs ρ 46 78 [l0, l1, l2] st σ r := ev_goto cm_46 dX3_readProduct_46 (by decide)
theorem x46_49 : Ev L xs ρ 46 49 [some (.ref a), l1, l2] st σ r ↔ Ev L xs ρ 46 50 [some (.ref a), l1, l2] (.ref a :: st) σ r := ev_aload_n cm_46 dX3_readProduct_49 rfl rfl
theorem x46_50 : Ev L xs ρ 46 50 [l0, l1, l2] st σ r ↔ Ev L xs ρ 46 53 [l0, l1, l2] (.int (303) :: st) σ r := ev_sipush cm_46 dX3_readProduct_50 (by decide)
theorem x46_53 : Ev L xs ρ 46 53 [l0, l1, l2] (.int x :: .ref a :: []) (n, I, Lm, Rm) r ↔ (a < n ∧ shp a = (0, 3)) ∧ rka 22 [.ref a, .int x] < ρ ∧ ∃ v n2 I2 L2 R2, Em L xs 22 [.ref a, .int x] (n, I, Lm, Rm) (v, n2, I2, L2, R2) ∧ Ev L xs ρ 46 56 [l0, l1, l2] (v.toList ++ []) (n2, I2, L2, R2) r := ev_cR cm_46 [.int x] dX3_readProduct_53 rfl rfl rfl rfl (Nat.le_of_ble_eq_true rfl) (Nat.le_of_ble_eq_true rfl)
theorem x46_56 : Ev L xs ρ 46 56 [l0, l1, l2] (.int x :: st) σ r ↔ if x = 0 then Ev L xs ρ 46 77 [l0, l1, l2] st σ r else Ev L xs ρ 46 59 [l0, l1, l2] st σ r := ev_ifeq cm_46 dX3_readProduct_56 (by decide)
theorem x46_59 : Ev L xs ρ 46 59 [some (.ref a), l1, l2] st σ r ↔ Ev L xs ρ 46 60 [some (.ref a), l1, l2] (.ref a :: st) σ r := ev_aload_n cm_46 dX3_readProduct_59 rfl rfl
theorem x46_60 : Ev L xs ρ 46 60 [l0, some (.int x), l2] st σ r ↔ Ev L xs ρ 46 61 [l0, some (.int x), l2] (.int x :: st) σ r := ev_iload_n cm_46 dX3_readProduct_60 rfl rfl
theorem x46_61 : Ev L xs ρ 46 61 [l0, l1, l2] (.int x :: .ref a :: []) (n, I, Lm, Rm) r ↔ (a < n ∧ shp a = (0, 3)) ∧ rka 47 [.ref a, .int x] < ρ ∧ ∃ v n2 I2 L2 R2, Em L xs 47 [.ref a, .int x] (n, I, Lm, Rm) (v, n2, I2, L2, R2) ∧ Ev L xs ρ 46 64 [l0, l1, l2] (v.toList ++ []) (n2, I2, L2, R2) r := ev_cR cm_46 [.int x] dX3_readProduct_61 rfl rfl rfl rfl (Nat.le_of_ble_eq_true rfl) (Nat.le_of_ble_eq_true rfl)
theorem x46_64 : Ev L xs ρ 46 64 [some (.ref a), l1, l2] st σ r ↔ Ev L xs ρ 46 65 [some (.ref a), l1, l2] (.ref a :: st) σ r := ev_aload_n cm_46 dX3_readProduct_64 rfl rfl
theorem x46_65 : Ev L xs ρ 46 65 [l0, l1, l2] (.ref a :: st) (n, I, Lm, Rm) r ↔ (a < n ∧ shp a = (0, 3)) ∧ Ev L xs ρ 46 68 [l0, l1, l2] (rfv (Rm a 5) :: st) (n, I, Lm, Rm) r := ev_gtR cm_46 dX3_readProduct_65 rfl rfl
theorem x46_68 : Ev L xs ρ 46 68 [l0, l1, l2] st σ r ↔ Ev L xs ρ 46 71 [l0, l1, l2] (.int (10014) :: st) σ r := ev_sipush cm_46 dX3_readProduct_68 (by decide)
theorem x46_71 : Ev L xs ρ 46 71 [l0, l1, l2] (.int x :: .ref a :: []) (n, I, Lm, Rm) r ↔ (a < n ∧ shp a = (0, 4)) ∧ rka 52 [.ref a, .int x] < ρ ∧ ∃ v n2 I2 L2 R2, Em L xs 52 [.ref a, .int x] (n, I, Lm, Rm) (v, n2, I2, L2, R2) ∧ Ev L xs ρ 46 74 [l0, l1, l2] (v.toList ++ []) (n2, I2, L2, R2) r := ev_cR cm_46 [.int x] dX3_readProduct_71 rfl rfl rfl rfl (Nat.le_of_ble_eq_true rfl) (Nat.le_of_ble_eq_true rfl)
theorem x46_74 : Ev L xs ρ 46 74 [l0, l1, l2] st σ r ↔ Ev L xs ρ 46 78 [l0, l1, l2] st σ r := ev_goto cm_46 dX3_readProduct_74 (by decide)
theorem x46_77 : Ev L xs ρ 46 77 [l0, l1, l2] [] σ r ↔ r = (none, σ) := ev_retv cm_46 dX3_readProduct_77 rfl
theorem x46_78 : Ev L xs ρ 46 78 [l0, l1, some (.int x)] st σ r ↔ Ev L xs ρ 46 81 [l0, l1, some (.int (x + (1)))] st σ r := ev_iinc cm_46 dX3_readProduct_78 rfl (by decide)
theorem x46_81 : Ev L xs ρ 46 81 [l0, l1, l2] st σ r ↔ Ev L xs ρ 46 7 [l0, l1, l2] st σ r := ev_goto cm_46 dX3_readProduct_81 (by decide)
theorem x46_84 : Ev L xs ρ 46 84 [l0, l1, l2] [] σ r ↔ r = (none, σ) := ev_retv cm_46 dX3_readProduct_84 rfl
theorem cm_47 : mcd 47 = cX3_readPiece := rfl
theorem em_47 : Em L xs 47 [.ref a, .int x] σ r ↔ Ev L xs (5 + 8 * (8 - ixn x)) 47 0 [some (.ref a), some (.int x), none, none] [] σ r := Iff.rfl
theorem x47_0 : Ev L xs ρ 47 0 [some (.ref a), l1, l2, l3] st σ r ↔ Ev L xs ρ 47 1 [some (.ref a), l1, l2, l3] (.ref a :: st) σ r := ev_aload_n cm_47 dX3_readPiece_0 rfl rfl
theorem x47_1 : Ev L xs ρ 47 1 [l0, l1, l2, l3] (.ref a :: []) (n, I, Lm, Rm) r ↔ (a < n ∧ shp a = (0, 3)) ∧ rka 20 [.ref a] < ρ ∧ ∃ v n2 I2 L2 R2, Em L xs 20 [.ref a] (n, I, Lm, Rm) (v, n2, I2, L2, R2) ∧ Ev L xs ρ 47 4 [l0, l1, l2, l3] (v.toList ++ []) (n2, I2, L2, R2) r := ev_cR cm_47 [] dX3_readPiece_1 rfl rfl rfl rfl (Nat.le_of_ble_eq_true rfl) (Nat.le_of_ble_eq_true rfl)
theorem x47_4 : Ev L xs ρ 47 4 [l0, l1, l2, l3] (.int x :: st) σ r ↔ Ev L xs ρ 47 5 [l0, l1, some (.int x), l3] st σ r := ev_istore_n cm_47 dX3_readPiece_4 rfl (Nat.le_of_ble_eq_true rfl)
theorem x47_5 : Ev L xs ρ 47 5 [l0, l1, some (.int x), l3] st σ r ↔ Ev L xs ρ 47 6 [l0, l1, some (.int x), l3] (.int x :: st) σ r := ev_iload_n cm_47 dX3_readPiece_5 rfl rfl
theorem x47_6 : Ev L xs ρ 47 6 [l0, l1, l2, l3] (.int x :: []) σ r ↔ rka 49 [.int x] < ρ ∧ ∃ v n2 I2 L2 R2, Em L xs 49 [.int x] σ (v, n2, I2, L2, R2) ∧ Ev L xs ρ 47 9 [l0, l1, l2, l3] (v.toList ++ []) (n2, I2, L2, R2) r := ev_cT cm_47 [.int x] dX3_readPiece_6 rfl rfl rfl (Nat.le_of_ble_eq_true rfl) (Nat.le_of_ble_eq_true rfl)
theorem x47_9 : Ev L xs ρ 47 9 [l0, l1, l2, l3] (.int x :: st) σ r ↔ Ev L xs ρ 47 10 [l0, l1, l2, some (.int x)] st σ r := ev_istore_n cm_47 dX3_readPiece_9 rfl (Nat.le_of_ble_eq_true rfl)
theorem x47_10 : Ev L xs ρ 47 10 [some (.ref a), l1, l2, l3] st σ r ↔ Ev L xs ρ 47 11 [some (.ref a), l1, l2, l3] (.ref a :: st) σ r := ev_aload_n cm_47 dX3_readPiece_10 rfl rfl
theorem x47_11 : Ev L xs ρ 47 11 [l0, l1, l2, l3] st σ r ↔ Ev L xs ρ 47 13 [l0, l1, l2, l3] (.int (31) :: st) σ r := ev_bipush cm_47 dX3_readPiece_11 (by decide)
theorem x47_13 : Ev L xs ρ 47 13 [l0, l1, l2, l3] (.int x :: .ref a :: []) (n, I, Lm, Rm) r ↔ (a < n ∧ shp a = (0, 3)) ∧ rka 22 [.ref a, .int x] < ρ ∧ ∃ v n2 I2 L2 R2, Em L xs 22 [.ref a, .int x] (n, I, Lm, Rm) (v, n2, I2, L2, R2) ∧ Ev L xs ρ 47 16 [l0, l1, l2, l3] (v.toList ++ []) (n2, I2, L2, R2) r := ev_cR cm_47 [.int x] dX3_readPiece_13 rfl rfl rfl rfl (Nat.le_of_ble_eq_true rfl) (Nat.le_of_ble_eq_true rfl)
theorem x47_16 : Ev L xs ρ 47 16 [l0, l1, l2, l3] (.int x :: st) σ r ↔ if x = 0 then Ev L xs ρ 47 30 [l0, l1, l2, l3] st σ r else Ev L xs ρ 47 19 [l0, l1, l2, l3] st σ r := ev_ifeq cm_47 dX3_readPiece_16 (by decide)
theorem x47_19 : Ev L xs ρ 47 19 [some (.ref a), l1, l2, l3] st σ r ↔ Ev L xs ρ 47 20 [some (.ref a), l1, l2, l3] (.ref a :: st) σ r := ev_aload_n cm_47 dX3_readPiece_19 rfl rfl
theorem x47_20 : Ev L xs ρ 47 20 [l0, some (.int x), l2, l3] st σ r ↔ Ev L xs ρ 47 21 [l0, some (.int x), l2, l3] (.int x :: st) σ r := ev_iload_n cm_47 dX3_readPiece_20 rfl rfl
theorem x47_21 : Ev L xs ρ 47 21 [l0, l1, l2, l3] st σ r ↔ Ev L xs ρ 47 24 [l0, l1, l2, l3] (.int (10015) :: st) σ r := ev_sipush cm_47 dX3_readPiece_21 (by decide)
theorem x47_24 : Ev L xs ρ 47 24 [l0, l1, l2, l3] (.int y :: .int x :: .ref a :: []) (n, I, Lm, Rm) r ↔ (a < n ∧ shp a = (0, 3)) ∧ rka 48 [.ref a, .int x, .int y] < ρ ∧ ∃ v n2 I2 L2 R2, Em L xs 48 [.ref a, .int x, .int y] (n, I, Lm, Rm) (v, n2, I2, L2, R2) ∧ Ev L xs ρ 47 27 [l0, l1, l2, l3] (v.toList ++ []) (n2, I2, L2, R2) r := ev_cR cm_47 [.int x, .int y] dX3_readPiece_24 rfl rfl rfl rfl (Nat.le_of_ble_eq_true rfl) (Nat.le_of_ble_eq_true rfl)
theorem x47_27 : Ev L xs ρ 47 27 [l0, l1, l2, l3] st σ r ↔ Ev L xs ρ 47 127 [l0, l1, l2, l3] st σ r := ev_goto cm_47 dX3_readPiece_27 (by decide)
theorem x47_30 : Ev L xs ρ 47 30 [some (.ref a), l1, l2, l3] st σ r ↔ Ev L xs ρ 47 31 [some (.ref a), l1, l2, l3] (.ref a :: st) σ r := ev_aload_n cm_47 dX3_readPiece_30 rfl rfl
theorem x47_31 : Ev L xs ρ 47 31 [l0, l1, l2, l3] st σ r ↔ Ev L xs ρ 47 33 [l0, l1, l2, l3] (.int (32) :: st) σ r := ev_bipush cm_47 dX3_readPiece_31 (by decide)
theorem x47_33 : Ev L xs ρ 47 33 [l0, l1, l2, l3] (.int x :: .ref a :: []) (n, I, Lm, Rm) r ↔ (a < n ∧ shp a = (0, 3)) ∧ rka 22 [.ref a, .int x] < ρ ∧ ∃ v n2 I2 L2 R2, Em L xs 22 [.ref a, .int x] (n, I, Lm, Rm) (v, n2, I2, L2, R2) ∧ Ev L xs ρ 47 36 [l0, l1, l2, l3] (v.toList ++ []) (n2, I2, L2, R2) r := ev_cR cm_47 [.int x] dX3_readPiece_33 rfl rfl rfl rfl (Nat.le_of_ble_eq_true rfl) (Nat.le_of_ble_eq_true rfl)
theorem x47_36 : Ev L xs ρ 47 36 [l0, l1, l2, l3] (.int x :: st) σ r ↔ if x = 0 then Ev L xs ρ 47 50 [l0, l1, l2, l3] st σ r else Ev L xs ρ 47 39 [l0, l1, l2, l3] st σ r := ev_ifeq cm_47 dX3_readPiece_36 (by decide)
theorem x47_39 : Ev L xs ρ 47 39 [some (.ref a), l1, l2, l3] st σ r ↔ Ev L xs ρ 47 40 [some (.ref a), l1, l2, l3] (.ref a :: st) σ r := ev_aload_n cm_47 dX3_readPiece_39 rfl rfl
theorem x47_40 : Ev L xs ρ 47 40 [l0, some (.int x), l2, l3] st σ r ↔ Ev L xs ρ 47 41 [l0, some (.int x), l2, l3] (.int x :: st) σ r := ev_iload_n cm_47 dX3_readPiece_40 rfl rfl
theorem x47_41 : Ev L xs ρ 47 41 [l0, l1, l2, l3] st σ r ↔ Ev L xs ρ 47 44 [l0, l1, l2, l3] (.int (10016) :: st) σ r := ev_sipush cm_47 dX3_readPiece_41 (by decide)
theorem x47_44 : Ev L xs ρ 47 44 [l0, l1, l2, l3] (.int y :: .int x :: .ref a :: []) (n, I, Lm, Rm) r ↔ (a < n ∧ shp a = (0, 3)) ∧ rka 48 [.ref a, .int x, .int y] < ρ ∧ ∃ v n2 I2 L2 R2, Em L xs 48 [.ref a, .int x, .int y] (n, I, Lm, Rm) (v, n2, I2, L2, R2) ∧ Ev L xs ρ 47 47 [l0, l1, l2, l3] (v.toList ++ []) (n2, I2, L2, R2) r := ev_cR cm_47 [.int x, .int y] dX3_readPiece_44 rfl rfl rfl rfl (Nat.le_of_ble_eq_true rfl) (Nat.le_of_ble_eq_true rfl)
theorem x47_47 : Ev L xs ρ 47 47 [l0, l1, l2, l3] st σ r ↔ Ev L xs ρ 47 127 [l0, l1, l2, l3] st σ r := ev_goto cm_47 dX3_readPiece_47 (by decide)
theorem x47_50 : Ev L xs ρ 47 50 [l0, l1, l2, some (.int x)] st σ r ↔ Ev L xs ρ 47 51 [l0, l1, l2, some (.int x)] (.int x :: st) σ r := ev_iload_n cm_47 dX3_readPiece_50 rfl rfl
theorem x47_51 : Ev L xs ρ 47 51 [l0, l1, l2, l3] st σ r ↔ Ev L xs ρ 47 52 [l0, l1, l2, l3] (.int (-1) :: st) σ r := ev_iconst cm_47 dX3_readPiece_51 (by decide)
theorem x47_52 : Ev L xs ρ 47 52 [l0, l1, l2, l3] (.int y :: .int x :: st) σ r ↔ if x = y then Ev L xs ρ 47 80 [l0, l1, l2, l3] st σ r else Ev L xs ρ 47 55 [l0, l1, l2, l3] st σ r := ev_iceq cm_47 dX3_readPiece_52 (by decide)
theorem x47_55 : Ev L xs ρ 47 55 [some (.ref a), l1, l2, l3] st σ r ↔ Ev L xs ρ 47 56 [some (.ref a), l1, l2, l3] (.ref a :: st) σ r := ev_aload_n cm_47 dX3_readPiece_55 rfl rfl
theorem x47_56 : Ev L xs ρ 47 56 [l0, l1, l2, l3] (.ref a :: st) σ r ↔ Ev L xs ρ 47 57 [l0, l1, l2, l3] (.ref a :: .ref a :: st) σ r := ev_nx (ev_ex cm_47 dX3_readPiece_56 rfl rfl)
theorem x47_57 : Ev L xs ρ 47 57 [l0, l1, l2, l3] (.ref a :: st) (n, I, Lm, Rm) r ↔ (a < n ∧ shp a = (0, 3)) ∧ Ev L xs ρ 47 60 [l0, l1, l2, l3] (.int (I a 6) :: st) (n, I, Lm, Rm) r := ev_gtI cm_47 dX3_readPiece_57 rfl rfl
theorem x47_60 : Ev L xs ρ 47 60 [l0, l1, l2, l3] st σ r ↔ Ev L xs ρ 47 61 [l0, l1, l2, l3] (.int (1) :: st) σ r := ev_iconst cm_47 dX3_readPiece_60 (by decide)
theorem x47_61 : Ev L xs ρ 47 61 [l0, l1, l2, l3] (.int y :: .int x :: st) σ r ↔ Ev L xs ρ 47 62 [l0, l1, l2, l3] (.int (x + y) :: st) σ r := ev_nx (ev_ex cm_47 dX3_readPiece_61 rfl rfl)
theorem x47_62 : Ev L xs ρ 47 62 [l0, l1, l2, l3] (.int x :: .ref a :: st) (n, I, Lm, Rm) r ↔ (a < n ∧ shp a = (0, 3)) ∧ Ev L xs ρ 47 65 [l0, l1, l2, l3] st (n, up2 I a 6 x, Lm, Rm) r := ev_ptI cm_47 dX3_readPiece_62 rfl rfl (Or.inl rfl)
theorem x47_65 : Ev L xs ρ 47 65 [some (.ref a), l1, l2, l3] st σ r ↔ Ev L xs ρ 47 66 [some (.ref a), l1, l2, l3] (.ref a :: st) σ r := ev_aload_n cm_47 dX3_readPiece_65 rfl rfl
theorem x47_66 : Ev L xs ρ 47 66 [l0, l1, l2, l3] (.ref a :: st) (n, I, Lm, Rm) r ↔ (a < n ∧ shp a = (0, 3)) ∧ Ev L xs ρ 47 69 [l0, l1, l2, l3] (rfv (Rm a 5) :: st) (n, I, Lm, Rm) r := ev_gtR cm_47 dX3_readPiece_66 rfl rfl
theorem x47_69 : Ev L xs ρ 47 69 [l0, l1, l2, l3] st σ r ↔ Ev L xs ρ 47 72 [l0, l1, l2, l3] (.int (10000) :: st) σ r := ev_sipush cm_47 dX3_readPiece_69 (by decide)
theorem x47_72 : Ev L xs ρ 47 72 [l0, l1, l2, some (.int x)] st σ r ↔ Ev L xs ρ 47 73 [l0, l1, l2, some (.int x)] (.int x :: st) σ r := ev_iload_n cm_47 dX3_readPiece_72 rfl rfl
theorem x47_73 : Ev L xs ρ 47 73 [l0, l1, l2, l3] (.int y :: .int x :: st) σ r ↔ Ev L xs ρ 47 74 [l0, l1, l2, l3] (.int (x + y) :: st) σ r := ev_nx (ev_ex cm_47 dX3_readPiece_73 rfl rfl)
theorem x47_74 : Ev L xs ρ 47 74 [l0, l1, l2, l3] (.int x :: .ref a :: []) (n, I, Lm, Rm) r ↔ (a < n ∧ shp a = (0, 4)) ∧ rka 52 [.ref a, .int x] < ρ ∧ ∃ v n2 I2 L2 R2, Em L xs 52 [.ref a, .int x] (n, I, Lm, Rm) (v, n2, I2, L2, R2) ∧ Ev L xs ρ 47 77 [l0, l1, l2, l3] (v.toList ++ []) (n2, I2, L2, R2) r := ev_cR cm_47 [.int x] dX3_readPiece_74 rfl rfl rfl rfl (Nat.le_of_ble_eq_true rfl) (Nat.le_of_ble_eq_true rfl)
theorem x47_77 : Ev L xs ρ 47 77 [l0, l1, l2, l3] st σ r ↔ Ev L xs ρ 47 127 [l0, l1, l2, l3] st σ r := ev_goto cm_47 dX3_readPiece_77 (by decide)
theorem x47_80 : Ev L xs ρ 47 80 [l0, l1, some (.int x), l3] st σ r ↔ Ev L xs ρ 47 81 [l0, l1, some (.int x), l3] (.int x :: st) σ r := ev_iload_n cm_47 dX3_readPiece_80 rfl rfl
theorem x47_81 : Ev L xs ρ 47 81 [l0, l1, l2, l3] st σ r ↔ Ev L xs ρ 47 84 [l0, l1, l2, l3] (.int (296) :: st) σ r := ev_sipush cm_47 dX3_readPiece_81 (by decide)
theorem x47_84 : Ev L xs ρ 47 84 [l0, l1, l2, l3] (.int y :: .int x :: st) σ r ↔ if x = y then Ev L xs ρ 47 87 [l0, l1, l2, l3] st σ r else Ev L xs ρ 47 112 [l0, l1, l2, l3] st σ r := ev_icne cm_47 dX3_readPiece_84 (by decide)
theorem x47_87 : Ev L xs ρ 47 87 [some (.ref a), l1, l2, l3] st σ r ↔ Ev L xs ρ 47 88 [some (.ref a), l1, l2, l3] (.ref a :: st) σ r := ev_aload_n cm_47 dX3_readPiece_87 rfl rfl
theorem x47_88 : Ev L xs ρ 47 88 [l0, some (.int x), l2, l3] st σ r ↔ Ev L xs ρ 47 89 [l0, some (.int x), l2, l3] (.int x :: st) σ r := ev_iload_n cm_47 dX3_readPiece_88 rfl rfl
theorem x47_89 : Ev L xs ρ 47 89 [l0, l1, l2, l3] (.int x :: .ref a :: []) (n, I, Lm, Rm) r ↔ (a < n ∧ shp a = (0, 3)) ∧ rka 44 [.ref a, .int x] < ρ ∧ ∃ v n2 I2 L2 R2, Em L xs 44 [.ref a, .int x] (n, I, Lm, Rm) (v, n2, I2, L2, R2) ∧ Ev L xs ρ 47 92 [l0, l1, l2, l3] (v.toList ++ []) (n2, I2, L2, R2) r := ev_cR cm_47 [.int x] dX3_readPiece_89 rfl rfl rfl rfl (Nat.le_of_ble_eq_true rfl) (Nat.le_of_ble_eq_true rfl)
theorem x47_92 : Ev L xs ρ 47 92 [l0, l1, l2, l3] (.int x :: st) σ r ↔ if x = 0 then Ev L xs ρ 47 127 [l0, l1, l2, l3] st σ r else Ev L xs ρ 47 95 [l0, l1, l2, l3] st σ r := ev_ifeq cm_47 dX3_readPiece_92 (by decide)
theorem x47_95 : Ev L xs ρ 47 95 [some (.ref a), l1, l2, l3] st σ r ↔ Ev L xs ρ 47 96 [some (.ref a), l1, l2, l3] (.ref a :: st) σ r := ev_aload_n cm_47 dX3_readPiece_95 rfl rfl
theorem x47_96 : Ev L xs ρ 47 96 [l0, some (.int x), l2, l3] st σ r ↔ Ev L xs ρ 47 97 [l0, some (.int x), l2, l3] (.int x :: st) σ r := ev_iload_n cm_47 dX3_readPiece_96 rfl rfl
theorem x47_97 : Ev L xs ρ 47 97 [l0, l1, l2, l3] st σ r ↔ Ev L xs ρ 47 98 [l0, l1, l2, l3] (.int (1) :: st) σ r := ev_iconst cm_47 dX3_readPiece_97 (by decide)
theorem x47_98 : Ev L xs ρ 47 98 [l0, l1, l2, l3] (.int y :: .int x :: st) σ r ↔ Ev L xs ρ 47 99 [l0, l1, l2, l3] (.int (x + y) :: st) σ r := ev_nx (ev_ex cm_47 dX3_readPiece_98 rfl rfl)
theorem x47_99 : Ev L xs ρ 47 99 [l0, l1, l2, l3] (.int x :: .ref a :: []) (n, I, Lm, Rm) r ↔ (a < n ∧ shp a = (0, 3)) ∧ rka 45 [.ref a, .int x] < ρ ∧ ∃ v n2 I2 L2 R2, Em L xs 45 [.ref a, .int x] (n, I, Lm, Rm) (v, n2, I2, L2, R2) ∧ Ev L xs ρ 47 102 [l0, l1, l2, l3] (v.toList ++ []) (n2, I2, L2, R2) r := ev_cR cm_47 [.int x] dX3_readPiece_99 rfl rfl rfl rfl (Nat.le_of_ble_eq_true rfl) (Nat.le_of_ble_eq_true rfl)
theorem x47_102 : Ev L xs ρ 47 102 [some (.ref a), l1, l2, l3] st σ r ↔ Ev L xs ρ 47 103 [some (.ref a), l1, l2, l3] (.ref a :: st) σ r := ev_aload_n cm_47 dX3_readPiece_102 rfl rfl
theorem x47_103 : Ev L xs ρ 47 103 [l0, l1, l2, l3] st σ r ↔ Ev L xs ρ 47 106 [l0, l1, l2, l3] (.int (297) :: st) σ r := ev_sipush cm_47 dX3_readPiece_103 (by decide)
theorem x47_106 : Ev L xs ρ 47 106 [l0, l1, l2, l3] (.int x :: .ref a :: []) (n, I, Lm, Rm) r ↔ (a < n ∧ shp a = (0, 3)) ∧ rka 23 [.ref a, .int x] < ρ ∧ ∃ v n2 I2 L2 R2, Em L xs 23 [.ref a, .int x] (n, I, Lm, Rm) (v, n2, I2, L2, R2) ∧ Ev L xs ρ 47 109 [l0, l1, l2, l3] (v.toList ++ []) (n2, I2, L2, R2) r := ev_cR cm_47 [.int x] dX3_readPiece_106 rfl rfl rfl rfl (Nat.le_of_ble_eq_true rfl) (Nat.le_of_ble_eq_true rfl)
theorem x47_109 : Ev L xs ρ 47 109 [l0, l1, l2, l3] st σ r ↔ Ev L xs ρ 47 127 [l0, l1, l2, l3] st σ r := ev_goto cm_47 dX3_readPiece_109 (by decide)
theorem x47_112 : Ev L xs ρ 47 112 [some (.ref a), l1, l2, l3] st σ r ↔ Ev L xs ρ 47 113 [some (.ref a), l1, l2, l3] (.ref a :: st) σ r := ev_aload_n cm_47 dX3_readPiece_112 rfl rfl
theorem x47_113 : Ev L xs ρ 47 113 [l0, l1, l2, l3] (.ref a :: st) (n, I, Lm, Rm) r ↔ (a < n ∧ shp a = (0, 3)) ∧ Ev L xs ρ 47 116 [l0, l1, l2, l3] (rfv (Rm a 5) :: st) (n, I, Lm, Rm) r := ev_gtR cm_47 dX3_readPiece_113 rfl rfl
theorem x47_116 : Ev L xs ρ 47 116 [some (.ref a), l1, l2, l3] st σ r ↔ Ev L xs ρ 47 117 [some (.ref a), l1, l2, l3] (.ref a :: st) σ r := ev_aload_n cm_47 dX3_readPiece_116 rfl rfl
theorem x47_117 : Ev L xs ρ 47 117 [l0, l1, l2, l3] st σ r ↔ Ev L xs ρ 47 118 [l0, l1, l2, l3] (.int (0) :: st) σ r := ev_iconst cm_47 dX3_readPiece_117 (by decide)
theorem x47_118 : Ev L xs ρ 47 118 [l0, l1, l2, l3] st σ r ↔ Ev L xs ρ 47 121 [l0, l1, l2, l3] (.int (9999) :: st) σ r := ev_sipush cm_47 dX3_readPiece_118 (by decide)
theorem x47_121 : Ev L xs ρ 47 121 [l0, l1, l2, l3] (.int y :: .int x :: .ref b :: .ref a :: []) (n, I, Lm, Rm) r ↔ (b < n ∧ shp b = (0, 3)) ∧ rka 24 [.ref b, .int x, .int y] < ρ ∧ ∃ v n2 I2 L2 R2, Em L xs 24 [.ref b, .int x, .int y] (n, I, Lm, Rm) (v, n2, I2, L2, R2) ∧ Ev L xs ρ 47 124 [l0, l1, l2, l3] (v.toList ++ (.ref a :: [])) (n2, I2, L2, R2) r := ev_cR cm_47 [.int x, .int y] dX3_readPiece_121 rfl rfl rfl rfl (Nat.le_of_ble_eq_true rfl) (Nat.le_of_ble_eq_true rfl)
theorem x47_124 : Ev L xs ρ 47 124 [l0, l1, l2, l3] (.int x :: .ref a :: []) (n, I, Lm, Rm) r ↔ (a < n ∧ shp a = (0, 4)) ∧ rka 52 [.ref a, .int x] < ρ ∧ ∃ v n2 I2 L2 R2, Em L xs 52 [.ref a, .int x] (n, I, Lm, Rm) (v, n2, I2, L2, R2) ∧ Ev L xs ρ 47 127 [l0, l1, l2, l3] (v.toList ++ []) (n2, I2, L2, R2) r := ev_cR cm_47 [.int x] dX3_readPiece_124 rfl rfl rfl rfl (Nat.le_of_ble_eq_true rfl) (Nat.le_of_ble_eq_true rfl)
theorem x47_127 : Ev L xs ρ 47 127 [l0, l1, l2, l3] [] σ r ↔ r = (none, σ) := ev_retv cm_47 dX3_readPiece_127 rfl
theorem cm_48 : mcd 48 = cX3_readOfTwo := rfl
theorem em_48 : Em L xs 48 [.ref a, .int x, .int y] σ r ↔ Ev L xs (4 + 8 * (8 - ixn x)) 48 0 [some (.ref a), some (.int x), some (.int y)] [] σ r := Iff.rfl
theorem x48_0 : Ev L xs ρ 48 0 [some (.ref a), l1, l2] st σ r ↔ Ev L xs ρ 48 1 [some (.ref a), l1, l2] (.ref a :: st) σ r := ev_aload_n cm_48 dX3_readOfTwo_0 rfl rfl
theorem x48_1 : Ev L xs ρ 48 1 [l0, l1, l2] (.ref a :: []) (n, I, Lm, Rm) r ↔ (a < n ∧ shp a = (0, 3)) ∧ rka 20 [.ref a] < ρ ∧ ∃ v n2 I2 L2 R2, Em L xs 20 [.ref a] (n, I, Lm, Rm) (v, n2, I2, L2, R2) ∧ Ev L xs ρ 48 4 [l0, l1, l2] (v.toList ++ []) (n2, I2, L2, R2) r := ev_cR cm_48 [] dX3_readOfTwo_1 rfl rfl rfl rfl (Nat.le_of_ble_eq_true rfl) (Nat.le_of_ble_eq_true rfl)
theorem x48_4 : Ev L xs ρ 48 4 [l0, l1, l2] st σ r ↔ Ev L xs ρ 48 7 [l0, l1, l2] (.int (296) :: st) σ r := ev_sipush cm_48 dX3_readOfTwo_4 (by decide)
theorem x48_7 : Ev L xs ρ 48 7 [l0, l1, l2] (.int y :: .int x :: st) σ r ↔ if x = y then Ev L xs ρ 48 19 [l0, l1, l2] st σ r else Ev L xs ρ 48 10 [l0, l1, l2] st σ r := ev_iceq cm_48 dX3_readOfTwo_7 (by decide)
theorem x48_10 : Ev L xs ρ 48 10 [some (.ref a), l1, l2] st σ r ↔ Ev L xs ρ 48 11 [some (.ref a), l1, l2] (.ref a :: st) σ r := ev_aload_n cm_48 dX3_readOfTwo_10 rfl rfl
theorem x48_11 : Ev L xs ρ 48 11 [l0, l1, l2] st σ r ↔ Ev L xs ρ 48 12 [l0, l1, l2] (.int (1) :: st) σ r := ev_iconst cm_48 dX3_readOfTwo_11 (by decide)
theorem x48_12 : Ev L xs ρ 48 12 [l0, l1, l2] st σ r ↔ Ev L xs ρ 48 13 [l0, l1, l2] (.int (0) :: st) σ r := ev_iconst cm_48 dX3_readOfTwo_12 (by decide)
theorem x48_13 : Ev L xs ρ 48 13 [l0, l1, l2] (.int y :: .int x :: .ref a :: []) (n, I, Lm, Rm) r ↔ (a < n ∧ shp a = (0, 3)) ∧ rka 21 [.ref a, .int x, .int y] < ρ ∧ ∃ v n2 I2 L2 R2, Em L xs 21 [.ref a, .int x, .int y] (n, I, Lm, Rm) (v, n2, I2, L2, R2) ∧ Ev L xs ρ 48 16 [l0, l1, l2] (v.toList ++ []) (n2, I2, L2, R2) r := ev_cR cm_48 [.int x, .int y] dX3_readOfTwo_13 rfl rfl rfl rfl (Nat.le_of_ble_eq_true rfl) (Nat.le_of_ble_eq_true rfl)
theorem x48_16 : Ev L xs ρ 48 16 [l0, l1, l2] st σ r ↔ Ev L xs ρ 48 63 [l0, l1, l2] st σ r := ev_goto cm_48 dX3_readOfTwo_16 (by decide)
theorem x48_19 : Ev L xs ρ 48 19 [some (.ref a), l1, l2] st σ r ↔ Ev L xs ρ 48 20 [some (.ref a), l1, l2] (.ref a :: st) σ r := ev_aload_n cm_48 dX3_readOfTwo_19 rfl rfl
theorem x48_20 : Ev L xs ρ 48 20 [l0, some (.int x), l2] st σ r ↔ Ev L xs ρ 48 21 [l0, some (.int x), l2] (.int x :: st) σ r := ev_iload_n cm_48 dX3_readOfTwo_20 rfl rfl
theorem x48_21 : Ev L xs ρ 48 21 [l0, l1, l2] (.int x :: .ref a :: []) (n, I, Lm, Rm) r ↔ (a < n ∧ shp a = (0, 3)) ∧ rka 44 [.ref a, .int x] < ρ ∧ ∃ v n2 I2 L2 R2, Em L xs 44 [.ref a, .int x] (n, I, Lm, Rm) (v, n2, I2, L2, R2) ∧ Ev L xs ρ 48 24 [l0, l1, l2] (v.toList ++ []) (n2, I2, L2, R2) r := ev_cR cm_48 [.int x] dX3_readOfTwo_21 rfl rfl rfl rfl (Nat.le_of_ble_eq_true rfl) (Nat.le_of_ble_eq_true rfl)
theorem x48_24 : Ev L xs ρ 48 24 [l0, l1, l2] (.int x :: st) σ r ↔ if x = 0 then Ev L xs ρ 48 63 [l0, l1, l2] st σ r else Ev L xs ρ 48 27 [l0, l1, l2] st σ r := ev_ifeq cm_48 dX3_readOfTwo_24 (by decide)
theorem x48_27 : Ev L xs ρ 48 27 [some (.ref a), l1, l2] st σ r ↔ Ev L xs ρ 48 28 [some (.ref a), l1, l2] (.ref a :: st) σ r := ev_aload_n cm_48 dX3_readOfTwo_27 rfl rfl
theorem x48_28 : Ev L xs ρ 48 28 [l0, some (.int x), l2] st σ r ↔ Ev L xs ρ 48 29 [l0, some (.int x), l2] (.int x :: st) σ r := ev_iload_n cm_48 dX3_readOfTwo_28 rfl rfl
theorem x48_29 : Ev L xs ρ 48 29 [l0, l1, l2] st σ r ↔ Ev L xs ρ 48 30 [l0, l1, l2] (.int (1) :: st) σ r := ev_iconst cm_48 dX3_readOfTwo_29 (by decide)
theorem x48_30 : Ev L xs ρ 48 30 [l0, l1, l2] (.int y :: .int x :: st) σ r ↔ Ev L xs ρ 48 31 [l0, l1, l2] (.int (x + y) :: st) σ r := ev_nx (ev_ex cm_48 dX3_readOfTwo_30 rfl rfl)
theorem x48_31 : Ev L xs ρ 48 31 [l0, l1, l2] (.int x :: .ref a :: []) (n, I, Lm, Rm) r ↔ (a < n ∧ shp a = (0, 3)) ∧ rka 45 [.ref a, .int x] < ρ ∧ ∃ v n2 I2 L2 R2, Em L xs 45 [.ref a, .int x] (n, I, Lm, Rm) (v, n2, I2, L2, R2) ∧ Ev L xs ρ 48 34 [l0, l1, l2] (v.toList ++ []) (n2, I2, L2, R2) r := ev_cR cm_48 [.int x] dX3_readOfTwo_31 rfl rfl rfl rfl (Nat.le_of_ble_eq_true rfl) (Nat.le_of_ble_eq_true rfl)
theorem x48_34 : Ev L xs ρ 48 34 [some (.ref a), l1, l2] st σ r ↔ Ev L xs ρ 48 35 [some (.ref a), l1, l2] (.ref a :: st) σ r := ev_aload_n cm_48 dX3_readOfTwo_34 rfl rfl
theorem x48_35 : Ev L xs ρ 48 35 [l0, l1, l2] st σ r ↔ Ev L xs ρ 48 38 [l0, l1, l2] (.int (300) :: st) σ r := ev_sipush cm_48 dX3_readOfTwo_35 (by decide)
theorem x48_38 : Ev L xs ρ 48 38 [l0, l1, l2] (.int x :: .ref a :: []) (n, I, Lm, Rm) r ↔ (a < n ∧ shp a = (0, 3)) ∧ rka 23 [.ref a, .int x] < ρ ∧ ∃ v n2 I2 L2 R2, Em L xs 23 [.ref a, .int x] (n, I, Lm, Rm) (v, n2, I2, L2, R2) ∧ Ev L xs ρ 48 41 [l0, l1, l2] (v.toList ++ []) (n2, I2, L2, R2) r := ev_cR cm_48 [.int x] dX3_readOfTwo_38 rfl rfl rfl rfl (Nat.le_of_ble_eq_true rfl) (Nat.le_of_ble_eq_true rfl)
theorem x48_41 : Ev L xs ρ 48 41 [some (.ref a), l1, l2] st σ r ↔ Ev L xs ρ 48 42 [some (.ref a), l1, l2] (.ref a :: st) σ r := ev_aload_n cm_48 dX3_readOfTwo_41 rfl rfl
theorem x48_42 : Ev L xs ρ 48 42 [l0, some (.int x), l2] st σ r ↔ Ev L xs ρ 48 43 [l0, some (.int x), l2] (.int x :: st) σ r := ev_iload_n cm_48 dX3_readOfTwo_42 rfl rfl
theorem x48_43 : Ev L xs ρ 48 43 [l0, l1, l2] st σ r ↔ Ev L xs ρ 48 44 [l0, l1, l2] (.int (1) :: st) σ r := ev_iconst cm_48 dX3_readOfTwo_43 (by decide)
theorem x48_44 : Ev L xs ρ 48 44 [l0, l1, l2] (.int y :: .int x :: st) σ r ↔ Ev L xs ρ 48 45 [l0, l1, l2] (.int (x + y) :: st) σ r := ev_nx (ev_ex cm_48 dX3_readOfTwo_44 rfl rfl)
theorem x48_45 : Ev L xs ρ 48 45 [l0, l1, l2] (.int x :: .ref a :: []) (n, I, Lm, Rm) r ↔ (a < n ∧ shp a = (0, 3)) ∧ rka 45 [.ref a, .int x] < ρ ∧ ∃ v n2 I2 L2 R2, Em L xs 45 [.ref a, .int x] (n, I, Lm, Rm) (v, n2, I2, L2, R2) ∧ Ev L xs ρ 48 48 [l0, l1, l2] (v.toList ++ []) (n2, I2, L2, R2) r := ev_cR cm_48 [.int x] dX3_readOfTwo_45 rfl rfl rfl rfl (Nat.le_of_ble_eq_true rfl) (Nat.le_of_ble_eq_true rfl)
theorem x48_48 : Ev L xs ρ 48 48 [some (.ref a), l1, l2] st σ r ↔ Ev L xs ρ 48 49 [some (.ref a), l1, l2] (.ref a :: st) σ r := ev_aload_n cm_48 dX3_readOfTwo_48 rfl rfl
theorem x48_49 : Ev L xs ρ 48 49 [l0, l1, l2] st σ r ↔ Ev L xs ρ 48 52 [l0, l1, l2] (.int (297) :: st) σ r := ev_sipush cm_48 dX3_readOfTwo_49 (by decide)
theorem x48_52 : Ev L xs ρ 48 52 [l0, l1, l2] (.int x :: .ref a :: []) (n, I, Lm, Rm) r ↔ (a < n ∧ shp a = (0, 3)) ∧ rka 23 [.ref a, .int x] < ρ ∧ ∃ v n2 I2 L2 R2, Em L xs 23 [.ref a, .int x] (n, I, Lm, Rm) (v, n2, I2, L2, R2) ∧ Ev L xs ρ 48 55 [l0, l1, l2] (v.toList ++ []) (n2, I2, L2, R2) r := ev_cR cm_48 [.int x] dX3_readOfTwo_52 rfl rfl rfl rfl (Nat.le_of_ble_eq_true rfl) (Nat.le_of_ble_eq_true rfl)
theorem x48_55 : Ev L xs ρ 48 55 [some (.ref a), l1, l2] st σ r ↔ Ev L xs ρ 48 56 [some (.ref a), l1, l2] (.ref a :: st) σ r := ev_aload_n cm_48 dX3_readOfTwo_55 rfl rfl
theorem x48_56 : Ev L xs ρ 48 56 [l0, l1, l2] (.ref a :: st) (n, I, Lm, Rm) r ↔ (a < n ∧ shp a = (0, 3)) ∧ Ev L xs ρ 48 59 [l0, l1, l2] (rfv (Rm a 5) :: st) (n, I, Lm, Rm) r := ev_gtR cm_48 dX3_readOfTwo_56 rfl rfl
theorem x48_59 : Ev L xs ρ 48 59 [l0, l1, some (.int x)] st σ r ↔ Ev L xs ρ 48 60 [l0, l1, some (.int x)] (.int x :: st) σ r := ev_iload_n cm_48 dX3_readOfTwo_59 rfl rfl
theorem x48_60 : Ev L xs ρ 48 60 [l0, l1, l2] (.int x :: .ref a :: []) (n, I, Lm, Rm) r ↔ (a < n ∧ shp a = (0, 4)) ∧ rka 52 [.ref a, .int x] < ρ ∧ ∃ v n2 I2 L2 R2, Em L xs 52 [.ref a, .int x] (n, I, Lm, Rm) (v, n2, I2, L2, R2) ∧ Ev L xs ρ 48 63 [l0, l1, l2] (v.toList ++ []) (n2, I2, L2, R2) r := ev_cR cm_48 [.int x] dX3_readOfTwo_60 rfl rfl rfl rfl (Nat.le_of_ble_eq_true rfl) (Nat.le_of_ble_eq_true rfl)
theorem x48_63 : Ev L xs ρ 48 63 [l0, l1, l2] [] σ r ↔ r = (none, σ) := ev_retv cm_48 dX3_readOfTwo_63 rfl
theorem cm_49 : mcd 49 = cX3_factOf := rfl
theorem em_49 : Em L xs 49 [.int x] σ r ↔ Ev L xs 0 49 0 [some (.int x)] [] σ r := Iff.rfl
theorem x49_0 : Ev L xs ρ 49 0 [some (.int x)] st σ r ↔ Ev L xs ρ 49 1 [some (.int x)] (.int x :: st) σ r := ev_iload_n cm_49 dX3_factOf_0 rfl rfl
theorem x49_1 : Ev L xs ρ 49 1 [l0] st σ r ↔ Ev L xs ρ 49 2 [l0] (.int (2) :: st) σ r := ev_iconst cm_49 dX3_factOf_1 (by decide)
theorem x49_2 : Ev L xs ρ 49 2 [l0] (.int y :: .int x :: st) σ r ↔ if x = y then Ev L xs ρ 49 5 [l0] st σ r else Ev L xs ρ 49 8 [l0] st σ r := ev_icne cm_49 dX3_factOf_2 (by decide)
theorem x49_5 : Ev L xs ρ 49 5 [l0] st σ r ↔ Ev L xs ρ 49 7 [l0] (.int (7) :: st) σ r := ev_bipush cm_49 dX3_factOf_5 (by decide)
theorem x49_7 : Ev L xs ρ 49 7 [l0] [.int x] σ r ↔ r = (some (.int x), σ) := ev_reti cm_49 dX3_factOf_7 rfl
theorem x49_8 : Ev L xs ρ 49 8 [some (.int x)] st σ r ↔ Ev L xs ρ 49 9 [some (.int x)] (.int x :: st) σ r := ev_iload_n cm_49 dX3_factOf_8 rfl rfl
theorem x49_9 : Ev L xs ρ 49 9 [l0] st σ r ↔ Ev L xs ρ 49 11 [l0] (.int (24) :: st) σ r := ev_bipush cm_49 dX3_factOf_9 (by decide)
theorem x49_11 : Ev L xs ρ 49 11 [l0] (.int y :: .int x :: st) σ r ↔ if x < y then Ev L xs ρ 49 27 [l0] st σ r else Ev L xs ρ 49 14 [l0] st σ r := ev_iclt cm_49 dX3_factOf_11 (by decide)
theorem x49_14 : Ev L xs ρ 49 14 [some (.int x)] st σ r ↔ Ev L xs ρ 49 15 [some (.int x)] (.int x :: st) σ r := ev_iload_n cm_49 dX3_factOf_14 rfl rfl
theorem x49_15 : Ev L xs ρ 49 15 [l0] st σ r ↔ Ev L xs ρ 49 17 [l0] (.int (30) :: st) σ r := ev_bipush cm_49 dX3_factOf_15 (by decide)
theorem x49_17 : Ev L xs ρ 49 17 [l0] (.int y :: .int x :: st) σ r ↔ if y < x then Ev L xs ρ 49 27 [l0] st σ r else Ev L xs ρ 49 20 [l0] st σ r := ev_icgt cm_49 dX3_factOf_17 (by decide)
theorem x49_20 : Ev L xs ρ 49 20 [some (.int x)] st σ r ↔ Ev L xs ρ 49 21 [some (.int x)] (.int x :: st) σ r := ev_iload_n cm_49 dX3_factOf_20 rfl rfl
theorem x49_21 : Ev L xs ρ 49 21 [l0] st σ r ↔ Ev L xs ρ 49 23 [l0] (.int (24) :: st) σ r := ev_bipush cm_49 dX3_factOf_21 (by decide)
theorem x49_23 : Ev L xs ρ 49 23 [l0] (.int y :: .int x :: st) σ r ↔ Ev L xs ρ 49 24 [l0] (.int (x - y) :: st) σ r := ev_nx (ev_ex cm_49 dX3_factOf_23 rfl rfl)
theorem x49_24 : Ev L xs ρ 49 24 [l0] st σ r ↔ Ev L xs ρ 49 28 [l0] st σ r := ev_goto cm_49 dX3_factOf_24 (by decide)
theorem x49_27 : Ev L xs ρ 49 27 [l0] st σ r ↔ Ev L xs ρ 49 28 [l0] (.int (-1) :: st) σ r := ev_iconst cm_49 dX3_factOf_27 (by decide)
theorem x49_28 : Ev L xs ρ 49 28 [l0] [.int x] σ r ↔ r = (some (.int x), σ) := ev_reti cm_49 dX3_factOf_28 rfl
end
