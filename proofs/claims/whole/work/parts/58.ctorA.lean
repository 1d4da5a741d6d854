theorem df_X0 : ∀ j, j < 8 → defaultValue (tyX0 j) = vp_V (zfs0 0) j := by
  intro j hj
  match j, hj with
  | 0, _ => rfl
  | 1, _ => rfl
  | 2, _ => rfl
  | 3, _ => rfl
  | 4, _ => rfl
  | 5, _ => rfl
  | 6, _ => rfl
  | 7, _ => rfl
  | n + 8, h => exact absurd h (by omega)
theorem df_X1 : ∀ j, j < 3 → defaultValue (tyX1 j) = vp_V (zfs0 1) j := by
  intro j hj
  match j, hj with
  | 0, _ => rfl
  | 1, _ => rfl
  | 2, _ => rfl
  | n + 3, h => exact absurd h (by omega)
theorem df_X2 : ∀ j, j < 11 → defaultValue (tyX2 j) = vp_V (zfs0 2) j := by
  intro j hj
  match j, hj with
  | 0, _ => rfl
  | 1, _ => rfl
  | 2, _ => rfl
  | 3, _ => rfl
  | 4, _ => rfl
  | 5, _ => rfl
  | 6, _ => rfl
  | 7, _ => rfl
  | 8, _ => rfl
  | 9, _ => rfl
  | 10, _ => rfl
  | n + 11, h => exact absurd h (by omega)
theorem df_X3 : ∀ j, j < 1 → defaultValue (tyX3 j) = vp_V (zfs0 3) j := by
  intro j hj
  match j, hj with
  | 0, _ => rfl
  | n + 1, h => exact absurd h (by omega)
theorem df_X4 : ∀ j, j < 11 → defaultValue (tyX4 j) = vp_V (zfs0 4) j := by
  intro j hj
  match j, hj with
  | 0, _ => rfl
  | 1, _ => rfl
  | 2, _ => rfl
  | 3, _ => rfl
  | 4, _ => rfl
  | 5, _ => rfl
  | 6, _ => rfl
  | 7, _ => rfl
  | 8, _ => rfl
  | 9, _ => rfl
  | 10, _ => rfl
  | n + 11, h => exact absurd h (by omega)
theorem df_X5 : ∀ j, j < 13 → defaultValue (tyX5 j) = vp_V (zfs0 5) j := by
  intro j hj
  match j, hj with
  | 0, _ => rfl
  | 1, _ => rfl
  | 2, _ => rfl
  | 3, _ => rfl
  | 4, _ => rfl
  | 5, _ => rfl
  | 6, _ => rfl
  | 7, _ => rfl
  | 8, _ => rfl
  | 9, _ => rfl
  | 10, _ => rfl
  | 11, _ => rfl
  | 12, _ => rfl
  | n + 13, h => exact absurd h (by omega)
theorem df_X6 : ∀ j, j < 16 → defaultValue (tyX6 j) = vp_V (zfs0 6) j := by
  intro j hj
  match j, hj with
  | 0, _ => rfl
  | 1, _ => rfl
  | 2, _ => rfl
  | 3, _ => rfl
  | 4, _ => rfl
  | 5, _ => rfl
  | 6, _ => rfl
  | 7, _ => rfl
  | 8, _ => rfl
  | 9, _ => rfl
  | 10, _ => rfl
  | 11, _ => rfl
  | 12, _ => rfl
  | 13, _ => rfl
  | 14, _ => rfl
  | 15, _ => rfl
  | n + 16, h => exact absurd h (by omega)
def nLyI (I : zMI) (b : Nat) : zMI := (zu (zu (zu (zu (zu (zu (zI0 (zI0 (zI0 (zI0 (zI0 I (b + 1)) (b + 2)) (b + 3)) (b + 4)) (b + 5)) b 5 (nI 0)) b 6 (nI 2)) b 7 (nI 1)) b 8 (nI 10)) b 9 (nI 0)) b 10 (nI 0))
def nLyR (R : zMR) (b : Nat) : zMR := (zuR (zR0 (zuR (zR0 (zuR (zR0 (zuR (zR0 (zuR (zR0 R (b + 1)) b 0 (some (b + 1))) (b + 2)) b 1 (some (b + 2))) (b + 3)) b 2 (some (b + 3))) (b + 4)) b 3 (some (b + 4))) (b + 5)) b 4 (some (b + 5)))
def nLyS (S : zS) : zS := (((((S ++ [(0, 10)]) ++ [(0, 10)]) ++ [(0, 10)]) ++ [(0, 10)]) ++ [(0, 10)])
set_option maxRecDepth 100000 in
set_option maxHeartbeats 4000000 in
theorem n_Layout {S : zS} (I : zMI) (L : zML) {R : zMR} {b : Nat} (hS : S.length = b + 1) (hb : S[b]? = some (2 + 3, 0)) (hw : zWf S R) : zMet yX2_init cX2_init 1 none 1 (5, 50) [.ref b] S I L R (fun S2 I2 L2 R2 r => r = none ∧ S2 = nLyS S ∧ I2 = nLyI I b ∧ R2 = nLyR R b) := by
  refine zMet_of (ini := true) (lv := [some (.ref b)]) (by decide) (fun _ => rfl) rfl rfl ?_
  refine z_aload_n dX2_init_0 rfl ?_
  refine z_objI dX2_init_1 mX2_3_l (by decide) (Nat.le_of_ble_eq_true rfl) ?_
  refine z_aload_n dX2_init_4 rfl ?_
  refine z_bipush (nI 10) dX2_init_5 (by decide) ?_
  refine z_newi (b := (b + 1)) dX2_init_7 (by (try simp only [List.length_append, List.length_cons, List.length_nil]); omega) hw (by decide) (by decide) ⟨(by repeat first | exact zOk_nil | refine zOk_r (by first | omega | exact Nat.le_of_ble_eq_true rfl) ?_ | refine zOk_i ?_ | refine zOk_a ?_), (by repeat first | exact zOk_nil | refine zOk_r (by first | omega | exact Nat.le_of_ble_eq_true rfl) ?_ | refine zOk_i ?_ | refine zOk_a ?_)⟩ ?_
  have hw := zWf_new (x := (0, 10)) (b := (b + 1)) hw (by (try simp only [List.length_append, List.length_cons, List.length_nil]); omega)
  refine z_putR dX2_init_9 fX2_9 rfl (fun C T N h => by cases h; rfl) (zgt hb) ?_
  have hw := zWf_put (a := b) (k := 0) (q := (b + 1)) hw (by (try simp only [List.length_append, List.length_cons, List.length_nil]); omega)
  refine z_aload_n dX2_init_12 rfl ?_
  refine z_bipush (nI 10) dX2_init_13 (by decide) ?_
  refine z_newi (b := (b + 2)) dX2_init_15 (by (try simp only [List.length_append, List.length_cons, List.length_nil]); omega) hw (by decide) (by decide) ⟨(by repeat first | exact zOk_nil | refine zOk_r (by first | omega | exact Nat.le_of_ble_eq_true rfl) ?_ | refine zOk_i ?_ | refine zOk_a ?_), (by repeat first | exact zOk_nil | refine zOk_r (by first | omega | exact Nat.le_of_ble_eq_true rfl) ?_ | refine zOk_i ?_ | refine zOk_a ?_)⟩ ?_
  have hw := zWf_new (x := (0, 10)) (b := (b + 2)) hw (by (try simp only [List.length_append, List.length_cons, List.length_nil]); omega)
  refine z_putR dX2_init_17 fX2_15 rfl (fun C T N h => by cases h; rfl) (zgt (zgt hb)) ?_
  have hw := zWf_put (a := b) (k := 1) (q := (b + 2)) hw (by (try simp only [List.length_append, List.length_cons, List.length_nil]); omega)
  refine z_aload_n dX2_init_20 rfl ?_
  refine z_bipush (nI 10) dX2_init_21 (by decide) ?_
  refine z_newi (b := (b + 3)) dX2_init_23 (by (try simp only [List.length_append, List.length_cons, List.length_nil]); omega) hw (by decide) (by decide) ⟨(by repeat first | exact zOk_nil | refine zOk_r (by first | omega | exact Nat.le_of_ble_eq_true rfl) ?_ | refine zOk_i ?_ | refine zOk_a ?_), (by repeat first | exact zOk_nil | refine zOk_r (by first | omega | exact Nat.le_of_ble_eq_true rfl) ?_ | refine zOk_i ?_ | refine zOk_a ?_)⟩ ?_
  have hw := zWf_new (x := (0, 10)) (b := (b + 3)) hw (by (try simp only [List.length_append, List.length_cons, List.length_nil]); omega)
  refine z_putR dX2_init_25 fX2_18 rfl (fun C T N h => by cases h; rfl) (zgt (zgt (zgt hb))) ?_
  have hw := zWf_put (a := b) (k := 2) (q := (b + 3)) hw (by (try simp only [List.length_append, List.length_cons, List.length_nil]); omega)
  refine z_aload_n dX2_init_28 rfl ?_
  refine z_bipush (nI 10) dX2_init_29 (by decide) ?_
  refine z_newi (b := (b + 4)) dX2_init_31 (by (try simp only [List.length_append, List.length_cons, List.length_nil]); omega) hw (by decide) (by decide) ⟨(by repeat first | exact zOk_nil | refine zOk_r (by first | omega | exact Nat.le_of_ble_eq_true rfl) ?_ | refine zOk_i ?_ | refine zOk_a ?_), (by repeat first | exact zOk_nil | refine zOk_r (by first | omega | exact Nat.le_of_ble_eq_true rfl) ?_ | refine zOk_i ?_ | refine zOk_a ?_)⟩ ?_
  have hw := zWf_new (x := (0, 10)) (b := (b + 4)) hw (by (try simp only [List.length_append, List.length_cons, List.length_nil]); omega)
  refine z_putR dX2_init_33 fX2_21 rfl (fun C T N h => by cases h; rfl) (zgt (zgt (zgt (zgt hb)))) ?_
  have hw := zWf_put (a := b) (k := 3) (q := (b + 4)) hw (by (try simp only [List.length_append, List.length_cons, List.length_nil]); omega)
  refine z_aload_n dX2_init_36 rfl ?_
  refine z_bipush (nI 10) dX2_init_37 (by decide) ?_
  refine z_newi (b := (b + 5)) dX2_init_39 (by (try simp only [List.length_append, List.length_cons, List.length_nil]); omega) hw (by decide) (by decide) ⟨(by repeat first | exact zOk_nil | refine zOk_r (by first | omega | exact Nat.le_of_ble_eq_true rfl) ?_ | refine zOk_i ?_ | refine zOk_a ?_), (by repeat first | exact zOk_nil | refine zOk_r (by first | omega | exact Nat.le_of_ble_eq_true rfl) ?_ | refine zOk_i ?_ | refine zOk_a ?_)⟩ ?_
  have hw := zWf_new (x := (0, 10)) (b := (b + 5)) hw (by (try simp only [List.length_append, List.length_cons, List.length_nil]); omega)
  refine z_putR dX2_init_41 fX2_24 rfl (fun C T N h => by cases h; rfl) (zgt (zgt (zgt (zgt (zgt hb))))) ?_
  have hw := zWf_put (a := b) (k := 4) (q := (b + 5)) hw (by (try simp only [List.length_append, List.length_cons, List.length_nil]); omega)
  refine z_aload_n dX2_init_44 rfl ?_
  refine z_iconst (nI 0) dX2_init_45 (by decide) ?_
  refine z_puti dX2_init_46 fX2_27 (zgt (zgt (zgt (zgt (zgt hb))))) ?_
  refine z_aload_n dX2_init_49 rfl ?_
  refine z_iconst (nI 2) dX2_init_50 (by decide) ?_
  refine z_puti dX2_init_51 fX2_31 (zgt (zgt (zgt (zgt (zgt hb))))) ?_
  refine z_aload_n dX2_init_54 rfl ?_
  refine z_iconst (nI 1) dX2_init_55 (by decide) ?_
  refine z_puti dX2_init_56 fX2_34 (zgt (zgt (zgt (zgt (zgt hb))))) ?_
  refine z_aload_n dX2_init_59 rfl ?_
  refine z_bipush (nI 10) dX2_init_60 (by decide) ?_
  refine z_puti dX2_init_62 fX2_37 (zgt (zgt (zgt (zgt (zgt hb))))) ?_
  refine z_aload_n dX2_init_65 rfl ?_
  refine z_iconst (nI 0) dX2_init_66 (by decide) ?_
  refine z_puti dX2_init_67 fX2_40 (zgt (zgt (zgt (zgt (zgt hb))))) ?_
  refine z_aload_n dX2_init_70 rfl ?_
  refine z_iconst (nI 0) dX2_init_71 (by decide) ?_
  refine z_puti dX2_init_72 fX2_43 (zgt (zgt (zgt (zgt (zgt hb))))) ?_
  exact z_ret dX2_init_75 (by decide) rfl ⟨rfl, rfl, rfl, rfl⟩
def nPcI (I : zMI) (b : Nat) : zMI := (zu (zu (zu (zI0 (zI0 (zI0 (zI0 (zI0 (zI0 (zI0 (zI0 I (b + 1)) (b + 2)) (b + 3)) (b + 4)) (b + 5)) (b + 6)) (b + 7)) (b + 8)) b 8 (nI 0)) b 9 (nI 0)) b 10 (nI 0))
def nPcR (R : zMR) (b : Nat) : zMR := (zuR (zR0 (zuR (zR0 (zuR (zR0 (zuR (zR0 (zuR (zR0 (zuR (zR0 (zuR (zR0 (zuR (zR0 R (b + 1)) b 0 (some (b + 1))) (b + 2)) b 1 (some (b + 2))) (b + 3)) b 2 (some (b + 3))) (b + 4)) b 3 (some (b + 4))) (b + 5)) b 4 (some (b + 5))) (b + 6)) b 5 (some (b + 6))) (b + 7)) b 6 (some (b + 7))) (b + 8)) b 7 (some (b + 8)))
def nPcS (S : zS) : zS := ((((((((S ++ [(0, 14)]) ++ [(0, 14)]) ++ [(0, 14)]) ++ [(0, 14)]) ++ [(0, 14)]) ++ [(0, 14)]) ++ [(0, 14)]) ++ [(0, 14)])
set_option maxRecDepth 100000 in
set_option maxHeartbeats 4000000 in
theorem n_Pieces {S : zS} (I : zMI) (L : zML) {R : zMR} {b : Nat} (hS : S.length = b + 1) (hb : S[b]? = some (4 + 3, 0)) (hw : zWf S R) : zMet yX4_init cX4_init 1 none 1 (8, 112) [.ref b] S I L R (fun S2 I2 L2 R2 r => r = none ∧ S2 = nPcS S ∧ I2 = nPcI I b ∧ R2 = nPcR R b) := by
  refine zMet_of (ini := true) (lv := [some (.ref b)]) (by decide) (fun _ => rfl) rfl rfl ?_
  refine z_aload_n dX4_init_0 rfl ?_
  refine z_objI dX4_init_1 mX4_3_l (by decide) (Nat.le_of_ble_eq_true rfl) ?_
  refine z_aload_n dX4_init_4 rfl ?_
  refine z_bipush (nI 14) dX4_init_5 (by decide) ?_
  refine z_newi (b := (b + 1)) dX4_init_7 (by (try simp only [List.length_append, List.length_cons, List.length_nil]); omega) hw (by decide) (by decide) ⟨(by repeat first | exact zOk_nil | refine zOk_r (by first | omega | exact Nat.le_of_ble_eq_true rfl) ?_ | refine zOk_i ?_ | refine zOk_a ?_), (by repeat first | exact zOk_nil | refine zOk_r (by first | omega | exact Nat.le_of_ble_eq_true rfl) ?_ | refine zOk_i ?_ | refine zOk_a ?_)⟩ ?_
  have hw := zWf_new (x := (0, 14)) (b := (b + 1)) hw (by (try simp only [List.length_append, List.length_cons, List.length_nil]); omega)
  refine z_putR dX4_init_9 fX4_9 rfl (fun C T N h => by cases h; rfl) (zgt hb) ?_
  have hw := zWf_put (a := b) (k := 0) (q := (b + 1)) hw (by (try simp only [List.length_append, List.length_cons, List.length_nil]); omega)
  refine z_aload_n dX4_init_12 rfl ?_
  refine z_bipush (nI 14) dX4_init_13 (by decide) ?_
  refine z_newi (b := (b + 2)) dX4_init_15 (by (try simp only [List.length_append, List.length_cons, List.length_nil]); omega) hw (by decide) (by decide) ⟨(by repeat first | exact zOk_nil | refine zOk_r (by first | omega | exact Nat.le_of_ble_eq_true rfl) ?_ | refine zOk_i ?_ | refine zOk_a ?_), (by repeat first | exact zOk_nil | refine zOk_r (by first | omega | exact Nat.le_of_ble_eq_true rfl) ?_ | refine zOk_i ?_ | refine zOk_a ?_)⟩ ?_
  have hw := zWf_new (x := (0, 14)) (b := (b + 2)) hw (by (try simp only [List.length_append, List.length_cons, List.length_nil]); omega)
  refine z_putR dX4_init_17 fX4_15 rfl (fun C T N h => by cases h; rfl) (zgt (zgt hb)) ?_
  have hw := zWf_put (a := b) (k := 1) (q := (b + 2)) hw (by (try simp only [List.length_append, List.length_cons, List.length_nil]); omega)
  refine z_aload_n dX4_init_20 rfl ?_
  refine z_bipush (nI 14) dX4_init_21 (by decide) ?_
  refine z_newi (b := (b + 3)) dX4_init_23 (by (try simp only [List.length_append, List.length_cons, List.length_nil]); omega) hw (by decide) (by decide) ⟨(by repeat first | exact zOk_nil | refine zOk_r (by first | omega | exact Nat.le_of_ble_eq_true rfl) ?_ | refine zOk_i ?_ | refine zOk_a ?_), (by repeat first | exact zOk_nil | refine zOk_r (by first | omega | exact Nat.le_of_ble_eq_true rfl) ?_ | refine zOk_i ?_ | refine zOk_a ?_)⟩ ?_
  have hw := zWf_new (x := (0, 14)) (b := (b + 3)) hw (by (try simp only [List.length_append, List.length_cons, List.length_nil]); omega)
  refine z_putR dX4_init_25 fX4_18 rfl (fun C T N h => by cases h; rfl) (zgt (zgt (zgt hb))) ?_
  have hw := zWf_put (a := b) (k := 2) (q := (b + 3)) hw (by (try simp only [List.length_append, List.length_cons, List.length_nil]); omega)
  refine z_aload_n dX4_init_28 rfl ?_
  refine z_bipush (nI 14) dX4_init_29 (by decide) ?_
  refine z_newi (b := (b + 4)) dX4_init_31 (by (try simp only [List.length_append, List.length_cons, List.length_nil]); omega) hw (by decide) (by decide) ⟨(by repeat first | exact zOk_nil | refine zOk_r (by first | omega | exact Nat.le_of_ble_eq_true rfl) ?_ | refine zOk_i ?_ | refine zOk_a ?_), (by repeat first | exact zOk_nil | refine zOk_r (by first | omega | exact Nat.le_of_ble_eq_true rfl) ?_ | refine zOk_i ?_ | refine zOk_a ?_)⟩ ?_
  have hw := zWf_new (x := (0, 14)) (b := (b + 4)) hw (by (try simp only [List.length_append, List.length_cons, List.length_nil]); omega)
  refine z_putR dX4_init_33 fX4_21 rfl (fun C T N h => by cases h; rfl) (zgt (zgt (zgt (zgt hb)))) ?_
  have hw := zWf_put (a := b) (k := 3) (q := (b + 4)) hw (by (try simp only [List.length_append, List.length_cons, List.length_nil]); omega)
  refine z_aload_n dX4_init_36 rfl ?_
  refine z_bipush (nI 14) dX4_init_37 (by decide) ?_
  refine z_newi (b := (b + 5)) dX4_init_39 (by (try simp only [List.length_append, List.length_cons, List.length_nil]); omega) hw (by decide) (by decide) ⟨(by repeat first | exact zOk_nil | refine zOk_r (by first | omega | exact Nat.le_of_ble_eq_true rfl) ?_ | refine zOk_i ?_ | refine zOk_a ?_), (by repeat first | exact zOk_nil | refine zOk_r (by first | omega | exact Nat.le_of_ble_eq_true rfl) ?_ | refine zOk_i ?_ | refine zOk_a ?_)⟩ ?_
  have hw := zWf_new (x := (0, 14)) (b := (b + 5)) hw (by (try simp only [List.length_append, List.length_cons, List.length_nil]); omega)
  refine z_putR dX4_init_41 fX4_24 rfl (fun C T N h => by cases h; rfl) (zgt (zgt (zgt (zgt (zgt hb))))) ?_
  have hw := zWf_put (a := b) (k := 4) (q := (b + 5)) hw (by (try simp only [List.length_append, List.length_cons, List.length_nil]); omega)
  refine z_aload_n dX4_init_44 rfl ?_
  refine z_bipush (nI 14) dX4_init_45 (by decide) ?_
  refine z_newi (b := (b + 6)) dX4_init_47 (by (try simp only [List.length_append, List.length_cons, List.length_nil]); omega) hw (by decide) (by decide) ⟨(by repeat first | exact zOk_nil | refine zOk_r (by first | omega | exact Nat.le_of_ble_eq_true rfl) ?_ | refine zOk_i ?_ | refine zOk_a ?_), (by repeat first | exact zOk_nil | refine zOk_r (by first | omega | exact Nat.le_of_ble_eq_true rfl) ?_ | refine zOk_i ?_ | refine zOk_a ?_)⟩ ?_
  have hw := zWf_new (x := (0, 14)) (b := (b + 6)) hw (by (try simp only [List.length_append, List.length_cons, List.length_nil]); omega)
  refine z_putR dX4_init_49 fX4_27 rfl (fun C T N h => by cases h; rfl) (zgt (zgt (zgt (zgt (zgt (zgt hb)))))) ?_
  have hw := zWf_put (a := b) (k := 5) (q := (b + 6)) hw (by (try simp only [List.length_append, List.length_cons, List.length_nil]); omega)
  refine z_aload_n dX4_init_52 rfl ?_
  refine z_bipush (nI 14) dX4_init_53 (by decide) ?_
  refine z_newi (b := (b + 7)) dX4_init_55 (by (try simp only [List.length_append, List.length_cons, List.length_nil]); omega) hw (by decide) (by decide) ⟨(by repeat first | exact zOk_nil | refine zOk_r (by first | omega | exact Nat.le_of_ble_eq_true rfl) ?_ | refine zOk_i ?_ | refine zOk_a ?_), (by repeat first | exact zOk_nil | refine zOk_r (by first | omega | exact Nat.le_of_ble_eq_true rfl) ?_ | refine zOk_i ?_ | refine zOk_a ?_)⟩ ?_
  have hw := zWf_new (x := (0, 14)) (b := (b + 7)) hw (by (try simp only [List.length_append, List.length_cons, List.length_nil]); omega)
  refine z_putR dX4_init_57 fX4_30 rfl (fun C T N h => by cases h; rfl) (zgt (zgt (zgt (zgt (zgt (zgt (zgt hb))))))) ?_
  have hw := zWf_put (a := b) (k := 6) (q := (b + 7)) hw (by (try simp only [List.length_append, List.length_cons, List.length_nil]); omega)
  refine z_aload_n dX4_init_60 rfl ?_
  refine z_bipush (nI 14) dX4_init_61 (by decide) ?_
  refine z_newi (b := (b + 8)) dX4_init_63 (by (try simp only [List.length_append, List.length_cons, List.length_nil]); omega) hw (by decide) (by decide) ⟨(by repeat first | exact zOk_nil | refine zOk_r (by first | omega | exact Nat.le_of_ble_eq_true rfl) ?_ | refine zOk_i ?_ | refine zOk_a ?_), (by repeat first | exact zOk_nil | refine zOk_r (by first | omega | exact Nat.le_of_ble_eq_true rfl) ?_ | refine zOk_i ?_ | refine zOk_a ?_)⟩ ?_
  have hw := zWf_new (x := (0, 14)) (b := (b + 8)) hw (by (try simp only [List.length_append, List.length_cons, List.length_nil]); omega)
  refine z_putR dX4_init_65 fX4_33 rfl (fun C T N h => by cases h; rfl) (zgt (zgt (zgt (zgt (zgt (zgt (zgt (zgt hb)))))))) ?_
  have hw := zWf_put (a := b) (k := 7) (q := (b + 8)) hw (by (try simp only [List.length_append, List.length_cons, List.length_nil]); omega)
  refine z_aload_n dX4_init_68 rfl ?_
  refine z_iconst (nI 0) dX4_init_69 (by decide) ?_
  refine z_puti dX4_init_70 fX4_36 (zgt (zgt (zgt (zgt (zgt (zgt (zgt (zgt hb)))))))) ?_
  refine z_aload_n dX4_init_73 rfl ?_
  refine z_iconst (nI 0) dX4_init_74 (by decide) ?_
  refine z_puti dX4_init_75 fX4_40 (zgt (zgt (zgt (zgt (zgt (zgt (zgt (zgt hb)))))))) ?_
  refine z_aload_n dX4_init_78 rfl ?_
  refine z_iconst (nI 0) dX4_init_79 (by decide) ?_
  refine z_puti dX4_init_80 fX4_43 (zgt (zgt (zgt (zgt (zgt (zgt (zgt (zgt hb)))))))) ?_
  exact z_ret dX4_init_83 (by decide) rfl ⟨rfl, rfl, rfl, rfl⟩
def nLkI (I : zMI) (b q : Nat) : zMI := I
def nLkR (R : zMR) (b q : Nat) : zMR := (zuR R b 0 (some q))
def nLkS (S : zS) : zS := S
set_option maxRecDepth 100000 in
set_option maxHeartbeats 4000000 in
theorem n_Links {S : zS} (I : zMI) (L : zML) {R : zMR} {b : Nat} (hS : S.length = b + 1) (hb : S[b]? = some (3 + 3, 0)) (hw : zWf S R) {q : Nat} (hq : q < S.length) : zMet yX3_init cX3_init 2 none 1 (0, 0) [.ref b, .ref q] S I L R (fun S2 I2 L2 R2 r => r = none ∧ S2 = nLkS S ∧ I2 = nLkI I b q ∧ R2 = nLkR R b q) := by
  refine zMet_of (ini := true) (lv := [some (.ref b), some (.ref q)]) (by decide) (fun _ => rfl) rfl rfl ?_
  refine z_aload_n dX3_init_0 rfl ?_
  refine z_objI dX3_init_1 mX3_1_l (by decide) (Nat.le_of_ble_eq_true rfl) ?_
  refine z_aload_n dX3_init_4 rfl ?_
  refine z_aload_n dX3_init_5 rfl ?_
  refine z_putR dX3_init_6 fX3_7 rfl (fun C T N h => by cases h; rfl) hb ?_
  have hw := zWf_put (a := b) (k := 0) (q := q) hw (by (try simp only [List.length_append, List.length_cons, List.length_nil]); omega)
  exact z_ret dX3_init_9 (by decide) rfl ⟨rfl, rfl, rfl, rfl⟩
def nBsI (I : zMI) (b q : Nat) : zMI := (zu (zu (zu (zu (zu (zu (zu I b 1 (nI 0)) b 2 (nI 0)) b 3 (nI 0)) b 4 (nI 0)) b 5 (nI 0)) b 6 (nI 0)) b 7 (nI 0))
def nBsR (R : zMR) (b q : Nat) : zMR := (zuR R b 0 (some q))
def nBsS (S : zS) : zS := S
set_option maxRecDepth 100000 in
set_option maxHeartbeats 4000000 in
theorem n_Best {S : zS} (I : zMI) (L : zML) {R : zMR} {b : Nat} (hS : S.length = b + 1) (hb : S[b]? = some (0 + 3, 0)) (hw : zWf S R) {q : Nat} (hq : q < S.length) : zMet yX0_init cX0_init 2 none 1 (0, 0) [.ref b, .ref q] S I L R (fun S2 I2 L2 R2 r => r = none ∧ S2 = nBsS S ∧ I2 = nBsI I b q ∧ R2 = nBsR R b q) := by
  refine zMet_of (ini := true) (lv := [some (.ref b), some (.ref q)]) (by decide) (fun _ => rfl) rfl rfl ?_
  refine z_aload_n dX0_init_0 rfl ?_
  refine z_objI dX0_init_1 mX0_3_l (by decide) (Nat.le_of_ble_eq_true rfl) ?_
  refine z_aload_n dX0_init_4 rfl ?_
  refine z_iconst (nI 0) dX0_init_5 (by decide) ?_
  refine z_puti dX0_init_6 fX0_9 hb ?_
  refine z_aload_n dX0_init_9 rfl ?_
  refine z_iconst (nI 0) dX0_init_10 (by decide) ?_
  refine z_puti dX0_init_11 fX0_15 hb ?_
  refine z_aload_n dX0_init_14 rfl ?_
  refine z_iconst (nI 0) dX0_init_15 (by decide) ?_
  refine z_puti dX0_init_16 fX0_18 hb ?_
  refine z_aload_n dX0_init_19 rfl ?_
  refine z_iconst (nI 0) dX0_init_20 (by decide) ?_
  refine z_puti dX0_init_21 fX0_21 hb ?_
  refine z_aload_n dX0_init_24 rfl ?_
  refine z_iconst (nI 0) dX0_init_25 (by decide) ?_
  refine z_puti dX0_init_26 fX0_24 hb ?_
  refine z_aload_n dX0_init_29 rfl ?_
  refine z_iconst (nI 0) dX0_init_30 (by decide) ?_
  refine z_puti dX0_init_31 fX0_27 hb ?_
  refine z_aload_n dX0_init_34 rfl ?_
  refine z_iconst (nI 0) dX0_init_35 (by decide) ?_
  refine z_puti dX0_init_36 fX0_30 hb ?_
  refine z_aload_n dX0_init_39 rfl ?_
  refine z_aload_n dX0_init_40 rfl ?_
  refine z_putR dX0_init_41 fX0_33 rfl (fun C T N h => by cases h; rfl) hb ?_
  have hw := zWf_put (a := b) (k := 0) (q := q) hw (by (try simp only [List.length_append, List.length_cons, List.length_nil]); omega)
  exact z_ret dX0_init_44 (by decide) rfl ⟨rfl, rfl, rfl, rfl⟩
theorem nLy_wf {S : zS} {R : zMR} {b : Nat} (hS : S.length = b + 1) (hw : zWf S R) : zWf (nLyS S) (nLyR R b) := by
  unfold nLyS nLyR
  have hw := zWf_new (x := (0, 10)) (b := b + 1) hw (by (try simp only [List.length_append, List.length_cons, List.length_nil]); omega)
  have hw := zWf_put (a := b) (k := 0) (q := b + 1) hw (by (try simp only [List.length_append, List.length_cons, List.length_nil]); omega)
  have hw := zWf_new (x := (0, 10)) (b := b + 2) hw (by (try simp only [List.length_append, List.length_cons, List.length_nil]); omega)
  have hw := zWf_put (a := b) (k := 1) (q := b + 2) hw (by (try simp only [List.length_append, List.length_cons, List.length_nil]); omega)
  have hw := zWf_new (x := (0, 10)) (b := b + 3) hw (by (try simp only [List.length_append, List.length_cons, List.length_nil]); omega)
  have hw := zWf_put (a := b) (k := 2) (q := b + 3) hw (by (try simp only [List.length_append, List.length_cons, List.length_nil]); omega)
  have hw := zWf_new (x := (0, 10)) (b := b + 4) hw (by (try simp only [List.length_append, List.length_cons, List.length_nil]); omega)
  have hw := zWf_put (a := b) (k := 3) (q := b + 4) hw (by (try simp only [List.length_append, List.length_cons, List.length_nil]); omega)
  have hw := zWf_new (x := (0, 10)) (b := b + 5) hw (by (try simp only [List.length_append, List.length_cons, List.length_nil]); omega)
  have hw := zWf_put (a := b) (k := 4) (q := b + 5) hw (by (try simp only [List.length_append, List.length_cons, List.length_nil]); omega)
  exact hw
theorem nPc_wf {S : zS} {R : zMR} {b : Nat} (hS : S.length = b + 1) (hw : zWf S R) : zWf (nPcS S) (nPcR R b) := by
  unfold nPcS nPcR
  have hw := zWf_new (x := (0, 14)) (b := b + 1) hw (by (try simp only [List.length_append, List.length_cons, List.length_nil]); omega)
  have hw := zWf_put (a := b) (k := 0) (q := b + 1) hw (by (try simp only [List.length_append, List.length_cons, List.length_nil]); omega)
  have hw := zWf_new (x := (0, 14)) (b := b + 2) hw (by (try simp only [List.length_append, List.length_cons, List.length_nil]); omega)
  have hw := zWf_put (a := b) (k := 1) (q := b + 2) hw (by (try simp only [List.length_append, List.length_cons, List.length_nil]); omega)
  have hw := zWf_new (x := (0, 14)) (b := b + 3) hw (by (try simp only [List.length_append, List.length_cons, List.length_nil]); omega)
  have hw := zWf_put (a := b) (k := 2) (q := b + 3) hw (by (try simp only [List.length_append, List.length_cons, List.length_nil]); omega)
  have hw := zWf_new (x := (0, 14)) (b := b + 4) hw (by (try simp only [List.length_append, List.length_cons, List.length_nil]); omega)
  have hw := zWf_put (a := b) (k := 3) (q := b + 4) hw (by (try simp only [List.length_append, List.length_cons, List.length_nil]); omega)
  have hw := zWf_new (x := (0, 14)) (b := b + 5) hw (by (try simp only [List.length_append, List.length_cons, List.length_nil]); omega)
  have hw := zWf_put (a := b) (k := 4) (q := b + 5) hw (by (try simp only [List.length_append, List.length_cons, List.length_nil]); omega)
  have hw := zWf_new (x := (0, 14)) (b := b + 6) hw (by (try simp only [List.length_append, List.length_cons, List.length_nil]); omega)
  have hw := zWf_put (a := b) (k := 5) (q := b + 6) hw (by (try simp only [List.length_append, List.length_cons, List.length_nil]); omega)
  have hw := zWf_new (x := (0, 14)) (b := b + 7) hw (by (try simp only [List.length_append, List.length_cons, List.length_nil]); omega)
  have hw := zWf_put (a := b) (k := 6) (q := b + 7) hw (by (try simp only [List.length_append, List.length_cons, List.length_nil]); omega)
  have hw := zWf_new (x := (0, 14)) (b := b + 8) hw (by (try simp only [List.length_append, List.length_cons, List.length_nil]); omega)
  have hw := zWf_put (a := b) (k := 7) (q := b + 8) hw (by (try simp only [List.length_append, List.length_cons, List.length_nil]); omega)
  exact hw
def nHsS0 : zS := ((nBsS ((nPcS ((nLyS ((nBsS ((nLkS ((nPcS ((nLyS ([(5 + 3, 0)] ++ [(2 + 3, 0)])) ++ [(4 + 3, 0)])) ++ [(3 + 3, 0)])) ++ [(0 + 3, 0)])) ++ [(2 + 3, 0)])) ++ [(4 + 3, 0)])) ++ [(0 + 3, 0)])) ++ [(1 + 3, 0)])
def nHsI (I : zMI) : zMI := (nLyI (zI0 (nLyI (zI0 (nLyI (zI0 (nLyI (zI0 (nLyI (zI0 (nLyI (zI0 (nLyI (zI0 (nLyI (zI0 (zu (zu (zI0 I 35) 34 1 (nI 0)) 34 2 (nI 0)) 36) 36) 42) 42) 48) 48) 54) 54) 60) 60) 66) 66) 72) 72) 78) 78)
def nHsR (R : zMR) : zMR := (zuR (nLyR (zR0 (zuR (nLyR (zR0 (zuR (nLyR (zR0 (zuR (nLyR (zR0 (zuR (nLyR (zR0 (zuR (nLyR (zR0 (zuR (nLyR (zR0 (zuR (nLyR (zR0 (zuR (zR0 R 35) 34 0 (some 35)) 36) 36) 35 0 (some 36)) 42) 42) 35 1 (some 42)) 48) 48) 35 2 (some 48)) 54) 54) 35 3 (some 54)) 60) 60) 35 4 (some 60)) 66) 66) 35 5 (some 66)) 72) 72) 35 6 (some 72)) 78) 78) 35 7 (some 78))
def nHsS : zS := (nLyS ((nLyS ((nLyS ((nLyS ((nLyS ((nLyS ((nLyS ((nLyS ((nHsS0 ++ [(2, 8)]) ++ [(2 + 3, 0)])) ++ [(2 + 3, 0)])) ++ [(2 + 3, 0)])) ++ [(2 + 3, 0)])) ++ [(2 + 3, 0)])) ++ [(2 + 3, 0)])) ++ [(2 + 3, 0)])) ++ [(2 + 3, 0)]))
set_option maxRecDepth 100000 in
set_option maxHeartbeats 4000000 in
theorem n_History (I : zMI) (L : zML) {R : zMR} (hw : zWf nHsS0 R) : zMet yX1_init cX1_init 2 none 3 (49, 496) [.ref 34] nHsS0 I L R (fun S2 I2 L2 R2 r => r = none ∧ S2 = nHsS ∧ I2 = nHsI I ∧ R2 = nHsR R) := by
  refine zMet_of (ini := true) (lv := [some (.ref 34), none]) (by decide) (fun _ => rfl) rfl rfl ?_
  refine z_aload_n dX1_init_0 rfl ?_
  refine z_objI dX1_init_1 mX1_3_l (by decide) (Nat.le_of_ble_eq_true rfl) ?_
  refine z_aload_n dX1_init_4 rfl ?_
  refine z_bipush (nI 8) dX1_init_5 (by decide) ?_
  refine z_newq (b := 35) dX1_init_7 kX1_9 rfl hw (by decide) (by decide) ⟨(by repeat first | exact zOk_nil | refine zOk_r (by first | omega | exact Nat.le_of_ble_eq_true rfl) ?_ | refine zOk_i ?_ | refine zOk_a ?_), (by repeat first | exact zOk_nil | refine zOk_r (by first | omega | exact Nat.le_of_ble_eq_true rfl) ?_ | refine zOk_i ?_ | refine zOk_a ?_)⟩ ?_
  have hw := zWf_new (x := (2, 8)) (b := 35) hw rfl
  refine z_putR dX1_init_10 fX1_11 rfl (fun C T N h => by cases h; rfl) rfl ?_
  have hw := zWf_put (a := 34) (k := 0) (q := 35) hw (by decide)
  refine z_aload_n dX1_init_13 rfl ?_
  refine z_iconst (nI 0) dX1_init_14 (by decide) ?_
  refine z_puti dX1_init_15 fX1_17 rfl ?_
  refine z_aload_n dX1_init_18 rfl ?_
  refine z_iconst (nI 0) dX1_init_19 (by decide) ?_
  refine z_puti dX1_init_20 fX1_21 rfl ?_
  refine z_iconst (nI 0) dX1_init_23 (by decide) ?_
  refine z_ist1 dX1_init_24 rfl ?_
  refine z_iload_n dX1_init_25 rfl ?_
  refine z_bipush (nI 8) dX1_init_26 (by decide) ?_
  refine z_icmp_geNN (tgt := 50) dX1_init_28 (by decide) (by omega) (by omega) (fun h => absurd h (by decide)) (fun _ => ?_)
  refine z_aload_n dX1_init_31 rfl ?_
  refine z_getr (q := 35) dX1_init_32 fX1_11 rfl rfl ?_
  refine z_iload_n dX1_init_35 rfl ?_
  refine z_newo (b := 36) dX1_init_36 zC_X2 kX1_9 df_X2 rfl hw (by decide) ⟨(by repeat first | exact zOk_nil | refine zOk_r (by first | omega | exact Nat.le_of_ble_eq_true rfl) ?_ | refine zOk_i ?_ | refine zOk_a ?_), (by repeat first | exact zOk_nil | refine zOk_r (by first | omega | exact Nat.le_of_ble_eq_true rfl) ?_ | refine zOk_i ?_ | refine zOk_a ?_)⟩ ?_
  have hw := zWf_new (x := (2 + 3, 0)) (b := 36) hw rfl
  refine z_dup dX1_init_39 rfl ?_
  refine z_callIN0g dX1_init_40 mX1_24 mX1_24_i rfl (n_Layout (b := 36) _ _ rfl rfl hw) (by decide) (Nat.le_of_ble_eq_true rfl) ⟨Nat.le_of_ble_eq_true rfl, Nat.le_of_ble_eq_true rfl⟩ (fun _ _ _ _ _ _ => Or.inr ⟨(by repeat first | exact zOk_nil | refine zOk_r (by first | omega | exact Nat.le_of_ble_eq_true rfl) ?_ | refine zOk_i ?_ | refine zOk_a ?_), (by repeat first | exact zOk_nil | refine zOk_r (by first | omega | exact Nat.le_of_ble_eq_true rfl) ?_ | refine zOk_i ?_ | refine zOk_a ?_)⟩) (fun S2 I2 L2 R2 r hr => ?_)
  obtain ⟨rfl, rfl, rfl, rfl⟩ := hr
  have hw := nLy_wf (b := 36) rfl hw
  refine z_aast 0 dX1_init_43 rfl rfl (by decide) (by decide) rfl ?_
  have hw := zWf_put (a := 35) (k := 0) (q := 36) hw (by decide)
  refine z_iincN1 (n := 1) dX1_init_44 rfl ?_
  refine z_goto (tgt := 25) dX1_init_47 (by decide) ?_
  refine z_iload_n dX1_init_25 rfl ?_
  refine z_bipush (nI 8) dX1_init_26 (by decide) ?_
  refine z_icmp_geNN (tgt := 50) dX1_init_28 (by decide) (by omega) (by omega) (fun h => absurd h (by decide)) (fun _ => ?_)
  refine z_aload_n dX1_init_31 rfl ?_
  refine z_getr (q := 35) dX1_init_32 fX1_11 rfl rfl ?_
  refine z_iload_n dX1_init_35 rfl ?_
  refine z_newo (b := 42) dX1_init_36 zC_X2 kX1_9 df_X2 rfl hw (by decide) ⟨(by repeat first | exact zOk_nil | refine zOk_r (by first | omega | exact Nat.le_of_ble_eq_true rfl) ?_ | refine zOk_i ?_ | refine zOk_a ?_), (by repeat first | exact zOk_nil | refine zOk_r (by first | omega | exact Nat.le_of_ble_eq_true rfl) ?_ | refine zOk_i ?_ | refine zOk_a ?_)⟩ ?_
  have hw := zWf_new (x := (2 + 3, 0)) (b := 42) hw rfl
  refine z_dup dX1_init_39 rfl ?_
  refine z_callIN0g dX1_init_40 mX1_24 mX1_24_i rfl (n_Layout (b := 42) _ _ rfl rfl hw) (by decide) (Nat.le_of_ble_eq_true rfl) ⟨Nat.le_of_ble_eq_true rfl, Nat.le_of_ble_eq_true rfl⟩ (fun _ _ _ _ _ _ => Or.inr ⟨(by repeat first | exact zOk_nil | refine zOk_r (by first | omega | exact Nat.le_of_ble_eq_true rfl) ?_ | refine zOk_i ?_ | refine zOk_a ?_), (by repeat first | exact zOk_nil | refine zOk_r (by first | omega | exact Nat.le_of_ble_eq_true rfl) ?_ | refine zOk_i ?_ | refine zOk_a ?_)⟩) (fun S2 I2 L2 R2 r hr => ?_)
  obtain ⟨rfl, rfl, rfl, rfl⟩ := hr
  have hw := nLy_wf (b := 42) rfl hw
  refine z_aast 1 dX1_init_43 rfl rfl (by decide) (by decide) rfl ?_
  have hw := zWf_put (a := 35) (k := 1) (q := 42) hw (by decide)
  refine z_iincN1 (n := 1) dX1_init_44 rfl ?_
  refine z_goto (tgt := 25) dX1_init_47 (by decide) ?_
  refine z_iload_n dX1_init_25 rfl ?_
  refine z_bipush (nI 8) dX1_init_26 (by decide) ?_
  refine z_icmp_geNN (tgt := 50) dX1_init_28 (by decide) (by omega) (by omega) (fun h => absurd h (by decide)) (fun _ => ?_)
  refine z_aload_n dX1_init_31 rfl ?_
  refine z_getr (q := 35) dX1_init_32 fX1_11 rfl rfl ?_
  refine z_iload_n dX1_init_35 rfl ?_
  refine z_newo (b := 48) dX1_init_36 zC_X2 kX1_9 df_X2 rfl hw (by decide) ⟨(by repeat first | exact zOk_nil | refine zOk_r (by first | omega | exact Nat.le_of_ble_eq_true rfl) ?_ | refine zOk_i ?_ | refine zOk_a ?_), (by repeat first | exact zOk_nil | refine zOk_r (by first | omega | exact Nat.le_of_ble_eq_true rfl) ?_ | refine zOk_i ?_ | refine zOk_a ?_)⟩ ?_
  have hw := zWf_new (x := (2 + 3, 0)) (b := 48) hw rfl
  refine z_dup dX1_init_39 rfl ?_
  refine z_callIN0g dX1_init_40 mX1_24 mX1_24_i rfl (n_Layout (b := 48) _ _ rfl rfl hw) (by decide) (Nat.le_of_ble_eq_true rfl) ⟨Nat.le_of_ble_eq_true rfl, Nat.le_of_ble_eq_true rfl⟩ (fun _ _ _ _ _ _ => Or.inr ⟨(by repeat first | exact zOk_nil | refine zOk_r (by first | omega | exact Nat.le_of_ble_eq_true rfl) ?_ | refine zOk_i ?_ | refine zOk_a ?_), (by repeat first | exact zOk_nil | refine zOk_r (by first | omega | exact Nat.le_of_ble_eq_true rfl) ?_ | refine zOk_i ?_ | refine zOk_a ?_)⟩) (fun S2 I2 L2 R2 r hr => ?_)
  obtain ⟨rfl, rfl, rfl, rfl⟩ := hr
  have hw := nLy_wf (b := 48) rfl hw
  refine z_aast 2 dX1_init_43 rfl rfl (by decide) (by decide) rfl ?_
  have hw := zWf_put (a := 35) (k := 2) (q := 48) hw (by decide)
  refine z_iincN1 (n := 1) dX1_init_44 rfl ?_
  refine z_goto (tgt := 25) dX1_init_47 (by decide) ?_
  refine z_iload_n dX1_init_25 rfl ?_
  refine z_bipush (nI 8) dX1_init_26 (by decide) ?_
  refine z_icmp_geNN (tgt := 50) dX1_init_28 (by decide) (by omega) (by omega) (fun h => absurd h (by decide)) (fun _ => ?_)
  refine z_aload_n dX1_init_31 rfl ?_
  refine z_getr (q := 35) dX1_init_32 fX1_11 rfl rfl ?_
  refine z_iload_n dX1_init_35 rfl ?_
  refine z_newo (b := 54) dX1_init_36 zC_X2 kX1_9 df_X2 rfl hw (by decide) ⟨(by repeat first | exact zOk_nil | refine zOk_r (by first | omega | exact Nat.le_of_ble_eq_true rfl) ?_ | refine zOk_i ?_ | refine zOk_a ?_), (by repeat first | exact zOk_nil | refine zOk_r (by first | omega | exact Nat.le_of_ble_eq_true rfl) ?_ | refine zOk_i ?_ | refine zOk_a ?_)⟩ ?_
  have hw := zWf_new (x := (2 + 3, 0)) (b := 54) hw rfl
  refine z_dup dX1_init_39 rfl ?_
  refine z_callIN0g dX1_init_40 mX1_24 mX1_24_i rfl (n_Layout (b := 54) _ _ rfl rfl hw) (by decide) (Nat.le_of_ble_eq_true rfl) ⟨Nat.le_of_ble_eq_true rfl, Nat.le_of_ble_eq_true rfl⟩ (fun _ _ _ _ _ _ => Or.inr ⟨(by repeat first | exact zOk_nil | refine zOk_r (by first | omega | exact Nat.le_of_ble_eq_true rfl) ?_ | refine zOk_i ?_ | refine zOk_a ?_), (by repeat first | exact zOk_nil | refine zOk_r (by first | omega | exact Nat.le_of_ble_eq_true rfl) ?_ | refine zOk_i ?_ | refine zOk_a ?_)⟩) (fun S2 I2 L2 R2 r hr => ?_)
  obtain ⟨rfl, rfl, rfl, rfl⟩ := hr
  have hw := nLy_wf (b := 54) rfl hw
  refine z_aast 3 dX1_init_43 rfl rfl (by decide) (by decide) rfl ?_
  have hw := zWf_put (a := 35) (k := 3) (q := 54) hw (by decide)
  refine z_iincN1 (n := 1) dX1_init_44 rfl ?_
  refine z_goto (tgt := 25) dX1_init_47 (by decide) ?_
  refine z_iload_n dX1_init_25 rfl ?_
  refine z_bipush (nI 8) dX1_init_26 (by decide) ?_
  refine z_icmp_geNN (tgt := 50) dX1_init_28 (by decide) (by omega) (by omega) (fun h => absurd h (by decide)) (fun _ => ?_)
  refine z_aload_n dX1_init_31 rfl ?_
  refine z_getr (q := 35) dX1_init_32 fX1_11 rfl rfl ?_
  refine z_iload_n dX1_init_35 rfl ?_
  refine z_newo (b := 60) dX1_init_36 zC_X2 kX1_9 df_X2 rfl hw (by decide) ⟨(by repeat first | exact zOk_nil | refine zOk_r (by first | omega | exact Nat.le_of_ble_eq_true rfl) ?_ | refine zOk_i ?_ | refine zOk_a ?_), (by repeat first | exact zOk_nil | refine zOk_r (by first | omega | exact Nat.le_of_ble_eq_true rfl) ?_ | refine zOk_i ?_ | refine zOk_a ?_)⟩ ?_
  have hw := zWf_new (x := (2 + 3, 0)) (b := 60) hw rfl
  refine z_dup dX1_init_39 rfl ?_
  refine z_callIN0g dX1_init_40 mX1_24 mX1_24_i rfl (n_Layout (b := 60) _ _ rfl rfl hw) (by decide) (Nat.le_of_ble_eq_true rfl) ⟨Nat.le_of_ble_eq_true rfl, Nat.le_of_ble_eq_true rfl⟩ (fun _ _ _ _ _ _ => Or.inr ⟨(by repeat first | exact zOk_nil | refine zOk_r (by first | omega | exact Nat.le_of_ble_eq_true rfl) ?_ | refine zOk_i ?_ | refine zOk_a ?_), (by repeat first | exact zOk_nil | refine zOk_r (by first | omega | exact Nat.le_of_ble_eq_true rfl) ?_ | refine zOk_i ?_ | refine zOk_a ?_)⟩) (fun S2 I2 L2 R2 r hr => ?_)
  obtain ⟨rfl, rfl, rfl, rfl⟩ := hr
  have hw := nLy_wf (b := 60) rfl hw
  refine z_aast 4 dX1_init_43 rfl rfl (by decide) (by decide) rfl ?_
  have hw := zWf_put (a := 35) (k := 4) (q := 60) hw (by decide)
  refine z_iincN1 (n := 1) dX1_init_44 rfl ?_
  refine z_goto (tgt := 25) dX1_init_47 (by decide) ?_
  refine z_iload_n dX1_init_25 rfl ?_
  refine z_bipush (nI 8) dX1_init_26 (by decide) ?_
  refine z_icmp_geNN (tgt := 50) dX1_init_28 (by decide) (by omega) (by omega) (fun h => absurd h (by decide)) (fun _ => ?_)
  refine z_aload_n dX1_init_31 rfl ?_
  refine z_getr (q := 35) dX1_init_32 fX1_11 rfl rfl ?_
  refine z_iload_n dX1_init_35 rfl ?_
  refine z_newo (b := 66) dX1_init_36 zC_X2 kX1_9 df_X2 rfl hw (by decide) ⟨(by repeat first | exact zOk_nil | refine zOk_r (by first | omega | exact Nat.le_of_ble_eq_true rfl) ?_ | refine zOk_i ?_ | refine zOk_a ?_), (by repeat first | exact zOk_nil | refine zOk_r (by first | omega | exact Nat.le_of_ble_eq_true rfl) ?_ | refine zOk_i ?_ | refine zOk_a ?_)⟩ ?_
  have hw := zWf_new (x := (2 + 3, 0)) (b := 66) hw rfl
  refine z_dup dX1_init_39 rfl ?_
  refine z_callIN0g dX1_init_40 mX1_24 mX1_24_i rfl (n_Layout (b := 66) _ _ rfl rfl hw) (by decide) (Nat.le_of_ble_eq_true rfl) ⟨Nat.le_of_ble_eq_true rfl, Nat.le_of_ble_eq_true rfl⟩ (fun _ _ _ _ _ _ => Or.inr ⟨(by repeat first | exact zOk_nil | refine zOk_r (by first | omega | exact Nat.le_of_ble_eq_true rfl) ?_ | refine zOk_i ?_ | refine zOk_a ?_), (by repeat first | exact zOk_nil | refine zOk_r (by first | omega | exact Nat.le_of_ble_eq_true rfl) ?_ | refine zOk_i ?_ | refine zOk_a ?_)⟩) (fun S2 I2 L2 R2 r hr => ?_)
  obtain ⟨rfl, rfl, rfl, rfl⟩ := hr
  have hw := nLy_wf (b := 66) rfl hw
  refine z_aast 5 dX1_init_43 rfl rfl (by decide) (by decide) rfl ?_
  have hw := zWf_put (a := 35) (k := 5) (q := 66) hw (by decide)
  refine z_iincN1 (n := 1) dX1_init_44 rfl ?_
  refine z_goto (tgt := 25) dX1_init_47 (by decide) ?_
  refine z_iload_n dX1_init_25 rfl ?_
  refine z_bipush (nI 8) dX1_init_26 (by decide) ?_
  refine z_icmp_geNN (tgt := 50) dX1_init_28 (by decide) (by omega) (by omega) (fun h => absurd h (by decide)) (fun _ => ?_)
  refine z_aload_n dX1_init_31 rfl ?_
  refine z_getr (q := 35) dX1_init_32 fX1_11 rfl rfl ?_
  refine z_iload_n dX1_init_35 rfl ?_
  refine z_newo (b := 72) dX1_init_36 zC_X2 kX1_9 df_X2 rfl hw (by decide) ⟨(by repeat first | exact zOk_nil | refine zOk_r (by first | omega | exact Nat.le_of_ble_eq_true rfl) ?_ | refine zOk_i ?_ | refine zOk_a ?_), (by repeat first | exact zOk_nil | refine zOk_r (by first | omega | exact Nat.le_of_ble_eq_true rfl) ?_ | refine zOk_i ?_ | refine zOk_a ?_)⟩ ?_
  have hw := zWf_new (x := (2 + 3, 0)) (b := 72) hw rfl
  refine z_dup dX1_init_39 rfl ?_
  refine z_callIN0g dX1_init_40 mX1_24 mX1_24_i rfl (n_Layout (b := 72) _ _ rfl rfl hw) (by decide) (Nat.le_of_ble_eq_true rfl) ⟨Nat.le_of_ble_eq_true rfl, Nat.le_of_ble_eq_true rfl⟩ (fun _ _ _ _ _ _ => Or.inr ⟨(by repeat first | exact zOk_nil | refine zOk_r (by first | omega | exact Nat.le_of_ble_eq_true rfl) ?_ | refine zOk_i ?_ | refine zOk_a ?_), (by repeat first | exact zOk_nil | refine zOk_r (by first | omega | exact Nat.le_of_ble_eq_true rfl) ?_ | refine zOk_i ?_ | refine zOk_a ?_)⟩) (fun S2 I2 L2 R2 r hr => ?_)
  obtain ⟨rfl, rfl, rfl, rfl⟩ := hr
  have hw := nLy_wf (b := 72) rfl hw
  refine z_aast 6 dX1_init_43 rfl rfl (by decide) (by decide) rfl ?_
  have hw := zWf_put (a := 35) (k := 6) (q := 72) hw (by decide)
  refine z_iincN1 (n := 1) dX1_init_44 rfl ?_
  refine z_goto (tgt := 25) dX1_init_47 (by decide) ?_
  refine z_iload_n dX1_init_25 rfl ?_
  refine z_bipush (nI 8) dX1_init_26 (by decide) ?_
  refine z_icmp_geNN (tgt := 50) dX1_init_28 (by decide) (by omega) (by omega) (fun h => absurd h (by decide)) (fun _ => ?_)
  refine z_aload_n dX1_init_31 rfl ?_
  refine z_getr (q := 35) dX1_init_32 fX1_11 rfl rfl ?_
  refine z_iload_n dX1_init_35 rfl ?_
  refine z_newo (b := 78) dX1_init_36 zC_X2 kX1_9 df_X2 rfl hw (by decide) ⟨(by repeat first | exact zOk_nil | refine zOk_r (by first | omega | exact Nat.le_of_ble_eq_true rfl) ?_ | refine zOk_i ?_ | refine zOk_a ?_), (by repeat first | exact zOk_nil | refine zOk_r (by first | omega | exact Nat.le_of_ble_eq_true rfl) ?_ | refine zOk_i ?_ | refine zOk_a ?_)⟩ ?_
  have hw := zWf_new (x := (2 + 3, 0)) (b := 78) hw rfl
  refine z_dup dX1_init_39 rfl ?_
  refine z_callIN0g dX1_init_40 mX1_24 mX1_24_i rfl (n_Layout (b := 78) _ _ rfl rfl hw) (by decide) (Nat.le_of_ble_eq_true rfl) ⟨Nat.le_of_ble_eq_true rfl, Nat.le_of_ble_eq_true rfl⟩ (fun _ _ _ _ _ _ => Or.inr ⟨(by repeat first | exact zOk_nil | refine zOk_r (by first | omega | exact Nat.le_of_ble_eq_true rfl) ?_ | refine zOk_i ?_ | refine zOk_a ?_), (by repeat first | exact zOk_nil | refine zOk_r (by first | omega | exact Nat.le_of_ble_eq_true rfl) ?_ | refine zOk_i ?_ | refine zOk_a ?_)⟩) (fun S2 I2 L2 R2 r hr => ?_)
  obtain ⟨rfl, rfl, rfl, rfl⟩ := hr
  have hw := nLy_wf (b := 78) rfl hw
  refine z_aast 7 dX1_init_43 rfl rfl (by decide) (by decide) rfl ?_
  have hw := zWf_put (a := 35) (k := 7) (q := 78) hw (by decide)
  refine z_iincN1 (n := 1) dX1_init_44 rfl ?_
  refine z_goto (tgt := 25) dX1_init_47 (by decide) ?_
  refine z_iload_n dX1_init_25 rfl ?_
  refine z_bipush (nI 8) dX1_init_26 (by decide) ?_
  refine z_icmp_geNN (tgt := 50) dX1_init_28 (by decide) (by omega) (by omega) (fun _ => ?_) (fun h => absurd h (by decide))
  exact z_ret dX1_init_50 (by decide) rfl ⟨rfl, rfl, rfl, rfl⟩
theorem nHs_wf {R : zMR} (hw : zWf nHsS0 R) : zWf nHsS (nHsR R) := by
  unfold nHsS nHsR
  have hw := zWf_new (x := (2, 8)) (b := 35) hw rfl
  have hw := zWf_put (a := 34) (k := 0) (q := 35) hw (by decide)
  have hw := zWf_new (x := (2 + 3, 0)) (b := 36) hw rfl
  have hw := nLy_wf (b := 36) rfl hw
  have hw := zWf_put (a := 35) (k := 0) (q := 36) hw (by decide)
  have hw := zWf_new (x := (2 + 3, 0)) (b := 42) hw rfl
  have hw := nLy_wf (b := 42) rfl hw
  have hw := zWf_put (a := 35) (k := 1) (q := 42) hw (by decide)
  have hw := zWf_new (x := (2 + 3, 0)) (b := 48) hw rfl
  have hw := nLy_wf (b := 48) rfl hw
  have hw := zWf_put (a := 35) (k := 2) (q := 48) hw (by decide)
  have hw := zWf_new (x := (2 + 3, 0)) (b := 54) hw rfl
  have hw := nLy_wf (b := 54) rfl hw
  have hw := zWf_put (a := 35) (k := 3) (q := 54) hw (by decide)
  have hw := zWf_new (x := (2 + 3, 0)) (b := 60) hw rfl
  have hw := nLy_wf (b := 60) rfl hw
  have hw := zWf_put (a := 35) (k := 4) (q := 60) hw (by decide)
  have hw := zWf_new (x := (2 + 3, 0)) (b := 66) hw rfl
  have hw := nLy_wf (b := 66) rfl hw
  have hw := zWf_put (a := 35) (k := 5) (q := 66) hw (by decide)
  have hw := zWf_new (x := (2 + 3, 0)) (b := 72) hw rfl
  have hw := nLy_wf (b := 72) rfl hw
  have hw := zWf_put (a := 35) (k := 6) (q := 72) hw (by decide)
  have hw := zWf_new (x := (2 + 3, 0)) (b := 78) hw rfl
  have hw := nLy_wf (b := 78) rfl hw
  have hw := zWf_put (a := 35) (k := 7) (q := 78) hw (by decide)
  exact hw
