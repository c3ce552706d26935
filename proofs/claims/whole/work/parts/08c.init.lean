/-! constructors: the memory behind them -/
def iX9 (t : Nat) (I : MI) : MI := (up (setQ I (t + 1) (fun _ => 0)) t 1 0)
def lX9 (t : Nat) (L : ML) : ML := (setQ L (t + 1) (fun _ => 0))
def rX9 (t : Nat) (R : MR) : MR := (up (setQ R (t + 1) (fun _ => none)) t 0 (some (t + 1)))
def iX5 (t : Nat) (I : MI) : MI := (setQ (setQ (setQ (setQ (setN9 (setN9 (setN9 I (t + 1) 7 0) (t + 9) 14 0) (t + 24) 7 0) (t + 32) (fun _ => 0)) (t + 33) (fun _ => 0)) (t + 34) (fun _ => 0)) (t + 35) (fun _ => 0))
def lX5 (t : Nat) (L : ML) : ML := (setQ (setQ (setQ (setQ (setN9 (setN9 (setN9 L (t + 1) 7 0) (t + 9) 14 0) (t + 24) 7 0) (t + 32) (fun _ => 0)) (t + 33) (fun _ => 0)) (t + 34) (fun _ => 0)) (t + 35) (fun _ => 0))
def rX5 (t : Nat) (R : MR) : MR := (up (setQ (up (setQ (up (setQ (up (setQ (up (setR9 (up (setR9 (up (setR9 R (t + 1) 7) t 12 (some (t + 1))) (t + 9) 14) t 13 (some (t + 9))) (t + 24) 7) t 14 (some (t + 24))) (t + 32) (fun _ => none)) t 15 (some (t + 32))) (t + 33) (fun _ => none)) t 16 (some (t + 33))) (t + 34) (fun _ => none)) t 17 (some (t + 34))) (t + 35) (fun _ => none)) t 18 (some (t + 35)))
def iX10 (t : Nat) (I : MI) : MI := I
def lX10 (t : Nat) (L : ML) : ML := L
def rX10 (a : Nat) (t : Nat) (R : MR) : MR := (up R t 0 (some a))
def iX6 (t : Nat) (I : MI) : MI := (iX10 (t + 4) (setQ (setQ (setQ (setQ I (t + 1) (fun _ => 0)) (t + 2) (fun _ => 0)) (t + 3) (fun _ => 0)) (t + 4) (fun _ => 0)))
def lX6 (t : Nat) (L : ML) : ML := (lX10 (t + 4) (setQ (setQ (setQ (setQ L (t + 1) (fun _ => 0)) (t + 2) (fun _ => 0)) (t + 3) (fun _ => 0)) (t + 4) (fun _ => 0)))
def rX6 (a : Nat) (b : Nat) (t : Nat) (R : MR) : MR := (up (up (rX10 a (t + 4) (setQ (up (setQ (up (setQ (up (setQ R (t + 1) (fun _ => none)) t 1 (some (t + 1))) (t + 2) (fun _ => none)) t 2 (some (t + 2))) (t + 3) (fun _ => none)) t 3 (some (t + 3))) (t + 4) (fun _ => none))) t 0 (some (t + 4))) t 5 (some b))
def iX2 (t : Nat) (I : MI) : MI := (up (up (up I t 0 0) t 1 0) t 2 0)
def lX2 (t : Nat) (L : ML) : ML := L
def rX2 (t : Nat) (R : MR) : MR := R
def iX0 (t : Nat) (I : MI) : MI := (up (setQ (up (setQ (up (setQ I (t + 1) (fun _ => 0)) t 1 0) (t + 2) (fun _ => 0)) t 3 0) (t + 3) (fun _ => 0)) t 5 0)
def lX0 (t : Nat) (L : ML) : ML := (setQ (setQ (setQ L (t + 1) (fun _ => 0)) (t + 2) (fun _ => 0)) (t + 3) (fun _ => 0))
def rX0 (t : Nat) (R : MR) : MR := (up (setQ (up (setQ (up (setQ R (t + 1) (fun _ => none)) t 0 (some (t + 1))) (t + 2) (fun _ => none)) t 2 (some (t + 2))) (t + 3) (fun _ => none)) t 4 (some (t + 3)))
def iX3 (t : Nat) (I : MI) : MI := (setQ I (t + 1) (fun _ => 0))
def lX3 (t : Nat) (L : ML) : ML := (setQ L (t + 1) (fun _ => 0))
def rX3n (t : Nat) (R : MR) : MR := (up (setQ R (t + 1) (fun _ => none)) t 0 (some (t + 1)))
def rX3s (t : Nat) (R : MR) : MR := (up (setQ R (t + 1) (fun _ => none)) t 0 (some (t + 1)))
def iX4 (t : Nat) (I : MI) : MI := (up (up (up (up (up (setQ (setQ (setQ (setQ (setQ (setN9 (iX3 t I) (t + 2) 14 0) (t + 17) (fun _ => 0)) (t + 18) (fun _ => 0)) (t + 19) (fun _ => 0)) (t + 20) (fun _ => 0)) (t + 21) (fun _ => 0)) t 8 0) t 9 0) t 10 0) t 11 0) t 12 0)
def lX4 (t : Nat) (L : ML) : ML := (setQ (setQ (setQ (setQ (setQ (setN9 (lX3 t L) (t + 2) 14 0) (t + 17) (fun _ => 0)) (t + 18) (fun _ => 0)) (t + 19) (fun _ => 0)) (t + 20) (fun _ => 0)) (t + 21) (fun _ => 0))
def rX4 (a : Nat) (t : Nat) (R : MR) : MR := (up (up (setQ (up (setQ (up (setQ (up (setQ (up (setQ (up (setR9 (rX3n t R) (t + 2) 14) t 2 (some (t + 2))) (t + 17) (fun _ => none)) t 3 (some (t + 17))) (t + 18) (fun _ => none)) t 4 (some (t + 18))) (t + 19) (fun _ => none)) t 5 (some (t + 19))) (t + 20) (fun _ => none)) t 6 (some (t + 20))) (t + 21) (fun _ => none)) t 7 (some (t + 21))) t 1 (some a))
def iX1 (t : Nat) (I : MI) : MI := (up (up (setQ (up (up (setQ (setQ I (t + 1) (fun _ => 0)) (t + 2) (fun _ => 0)) t 3 0) t 4 0) (t + 3) (fun _ => 0)) t 6 0) t 7 65536)
def lX1 (t : Nat) (L : ML) : ML := (setQ (setQ (setQ L (t + 1) (fun _ => 0)) (t + 2) (fun _ => 0)) (t + 3) (fun _ => 0))
def rX1 (a : Nat) (t : Nat) (R : MR) : MR := (up (up (setQ (up (setQ (up (setQ R (t + 1) (fun _ => none)) t 1 (some (t + 1))) (t + 2) (fun _ => none)) t 2 (some (t + 2))) (t + 3) (fun _ => none)) t 5 (some (t + 3))) t 0 (some a))
def iX7 (t : Nat) (I : MI) : MI := (iX4 (t + 2) (setQ (up (up (up (setQ I (t + 1) (fun _ => 0)) t 3 (-1)) t 4 (-2)) t 5 0) (t + 2) (fun _ => 0)))
def lX7 (t : Nat) (L : ML) : ML := (lX4 (t + 2) (setQ (setQ L (t + 1) (fun _ => 0)) (t + 2) (fun _ => 0)))
def rX7 (a : Nat) (t : Nat) (R : MR) : MR := (up (rX4 a (t + 2) (setQ (up (up (setQ R (t + 1) (fun _ => none)) t 2 (some (t + 1))) t 0 (some a)) (t + 2) (fun _ => none))) t 1 (some (t + 2)))
def iX8 (t : Nat) (I : MI) : MI := (setQ (iX3 t I) (t + 2) (fun _ => 0))
def lX8 (t : Nat) (L : ML) : ML := (setQ (lX3 t L) (t + 2) (fun _ => 0))
def rX8 (a : Nat) (t : Nat) (R : MR) : MR := (up (up (setQ (rX3s t R) (t + 2) (fun _ => none)) t 2 (some (t + 2))) t 1 (some a))
def iX11 (t : Nat) (I : MI) : MI := (up (up (up (iX8 (t + 135) (setQ (iX7 (t + 111) (setQ (iX1 (t + 107) (setQ (iX4 (t + 85) (setQ (iX0 (t + 81) (setQ (iX2 (t + 80) (setQ (iX6 (t + 75) (setQ (iX5 (t + 39) (setQ (iX5 (t + 3) (setQ (iX9 (t + 1) (setQ I (t + 1) (fun _ => 0))) (t + 3) (fun _ => 0))) (t + 39) (fun _ => 0))) (t + 75) (fun _ => 0))) (t + 80) (fun _ => 0))) (t + 81) (fun _ => 0))) (t + 85) (fun _ => 0))) (t + 107) (fun _ => 0))) (t + 111) (fun _ => 0))) (t + 135) (fun _ => 0))) t 10 0) t 11 0) t 12 (-1))
def lX11 (t : Nat) (L : ML) : ML := (lX8 (t + 135) (setQ (lX7 (t + 111) (setQ (lX1 (t + 107) (setQ (lX4 (t + 85) (setQ (lX0 (t + 81) (setQ (lX2 (t + 80) (setQ (lX6 (t + 75) (setQ (lX5 (t + 39) (setQ (lX5 (t + 3) (setQ (lX9 (t + 1) (setQ L (t + 1) (fun _ => 0))) (t + 3) (fun _ => 0))) (t + 39) (fun _ => 0))) (t + 75) (fun _ => 0))) (t + 80) (fun _ => 0))) (t + 81) (fun _ => 0))) (t + 85) (fun _ => 0))) (t + 107) (fun _ => 0))) (t + 111) (fun _ => 0))) (t + 135) (fun _ => 0)))
def rX11 (t : Nat) (R : MR) : MR := (up (rX8 (t + 3) (t + 135) (setQ (up (rX7 (t + 3) (t + 111) (setQ (up (rX1 (t + 85) (t + 107) (setQ (up (rX4 (t + 3) (t + 85) (setQ (up (rX0 (t + 81) (setQ (up (rX2 (t + 80) (setQ (up (rX6 (t + 1) (t + 39) (t + 75) (setQ (up (rX5 (t + 39) (setQ (up (rX5 (t + 3) (setQ (up (rX9 (t + 1) (setQ R (t + 1) (fun _ => none))) t 0 (some (t + 1))) (t + 3) (fun _ => none))) t 2 (some (t + 3))) (t + 39) (fun _ => none))) t 3 (some (t + 39))) (t + 75) (fun _ => none))) t 1 (some (t + 75))) (t + 80) (fun _ => none))) t 4 (some (t + 80))) (t + 81) (fun _ => none))) t 5 (some (t + 81))) (t + 85) (fun _ => none))) t 6 (some (t + 85))) (t + 107) (fun _ => none))) t 7 (some (t + 107))) (t + 111) (fun _ => none))) t 8 (some (t + 111))) (t + 135) (fun _ => none))) t 9 (some (t + 135)))
def iX12 (t : Nat) (I : MI) : MI := (setQ (setQ (setQ (setQ (setQ (setQ (setQ (up (setQ (setQ (setQ (setQ (setQ (setQ (setQ (setQ (setQ (setQ (setQ (setQ (setQ (up (setQ I (t + 1) (fun _ => 0)) t 10 (-1)) (t + 2) (fun _ => 0)) (t + 3) (fun _ => 0)) (t + 4) (fun _ => 0)) (t + 5) (fun _ => 0)) (t + 6) (fun _ => 0)) (t + 7) (fun _ => 0)) (t + 8) (fun _ => 0)) (t + 9) (fun _ => 0)) (t + 10) (fun _ => 0)) (t + 11) (fun _ => 0)) (t + 12) (fun _ => 0)) (t + 13) (fun _ => 0)) (t + 14) (fun _ => 0)) t 30 (-1)) (t + 15) (fun _ => 0)) (t + 16) (fun _ => 0)) (t + 17) (fun _ => 0)) (t + 18) (fun _ => 0)) (t + 19) (fun _ => 0)) (t + 20) (fun _ => 0)) (t + 21) (fun _ => 0))
def lX12 (t : Nat) (L : ML) : ML := (setQ (setQ (setQ (setQ (setQ (setQ (setQ (setQ (setQ (setQ (setQ (setQ (setQ (setQ (setQ (setQ (setQ (setQ (setQ (setQ (setQ L (t + 1) (fun _ => 0)) (t + 2) (fun _ => 0)) (t + 3) (fun _ => 0)) (t + 4) (fun _ => 0)) (t + 5) (fun _ => 0)) (t + 6) (fun _ => 0)) (t + 7) (fun _ => 0)) (t + 8) (fun _ => 0)) (t + 9) (fun _ => 0)) (t + 10) (fun _ => 0)) (t + 11) (fun _ => 0)) (t + 12) (fun _ => 0)) (t + 13) (fun _ => 0)) (t + 14) (fun _ => 0)) (t + 15) (fun _ => 0)) (t + 16) (fun _ => 0)) (t + 17) (fun _ => 0)) (t + 18) (fun _ => 0)) (t + 19) (fun _ => 0)) (t + 20) (fun _ => 0)) (t + 21) (fun _ => 0))
def rX12 (t : Nat) (R : MR) : MR := (up (setQ (up (setQ (up (setQ (up (setQ (up (setQ (up (setQ (up (setQ (up (setQ (up (setQ (up (setQ (up (setQ (up (setQ (up (setQ (up (setQ (up (setQ (up (setQ (up (setQ (up (setQ (up (setQ (up (setQ (up (setQ R (t + 1) (fun _ => none)) t 1 (some (t + 1))) (t + 2) (fun _ => none)) t 12 (some (t + 2))) (t + 3) (fun _ => none)) t 15 (some (t + 3))) (t + 4) (fun _ => none)) t 16 (some (t + 4))) (t + 5) (fun _ => none)) t 17 (some (t + 5))) (t + 6) (fun _ => none)) t 18 (some (t + 6))) (t + 7) (fun _ => none)) t 19 (some (t + 7))) (t + 8) (fun _ => none)) t 20 (some (t + 8))) (t + 9) (fun _ => none)) t 21 (some (t + 9))) (t + 10) (fun _ => none)) t 25 (some (t + 10))) (t + 11) (fun _ => none)) t 26 (some (t + 11))) (t + 12) (fun _ => none)) t 27 (some (t + 12))) (t + 13) (fun _ => none)) t 28 (some (t + 13))) (t + 14) (fun _ => none)) t 29 (some (t + 14))) (t + 15) (fun _ => none)) t 31 (some (t + 15))) (t + 16) (fun _ => none)) t 32 (some (t + 16))) (t + 17) (fun _ => none)) t 33 (some (t + 17))) (t + 18) (fun _ => none)) t 34 (some (t + 18))) (t + 19) (fun _ => none)) t 35 (some (t + 19))) (t + 20) (fun _ => none)) t 36 (some (t + 20))) (t + 21) (fun _ => none)) t 37 (some (t + 21)))
set_option maxHeartbeats 4000000 in
theorem c_X9_init_1 {E : ET} {I : MI} {L : ML} {R : MR} {Q : Option AV → MI → ML → MR → Prop}  (h : Q none (iX9 1 I) (lX9 1 L) (rX9 1 R)) : CT E (M_X9_init 2) (2) yX9_init [(vr (1))] I L R Q := by
  refine CT_of rfl rfl (fun _ => rfl) (Nat.le_of_ble_eq_true rfl) (fun X => ?_)
  show V X _ (0, 0, 2) 0 [some (vr (1))] [] I L R _
  refine s_aload_n 1 dX9_init_0 rfl rfl ?_
  refine s_obj 4 dX9_init_1 rfl cw_X9_3 cw_oi cw_oc (Nat.le_of_ble_eq_true rfl) (Nat.le_of_ble_eq_true rfl) ?_
  refine s_aload_n 5 dX9_init_4 rfl rfl ?_
  refine s_sipush 8 dX9_init_5 rfl (by decide) ?_
  refine s_newi (N := 900) 10 dX9_init_8 rfl rfl na_i (by decide +kernel) (Nat.le_of_ble_eq_true rfl) (Nat.le_of_ble_eq_true rfl) (Nat.le_of_ble_eq_true rfl) (Nat.le_of_ble_eq_true rfl) ?_
  refine s_putRF 13 dX9_init_10 rfl rfl (fun _ _ h => by cases h; rfl) fl_X9_9 (fun _ => rfl) (fun _ => rfl) (fun _ _ _ _ => rfl) sh_1 (Nat.le_of_ble_eq_true rfl) ?_
  refine s_aload_n 14 dX9_init_13 rfl rfl ?_
  refine s_iconst 15 dX9_init_14 rfl ?_
  refine s_putI 18 dX9_init_15 rfl fl_X9_15 (fun _ => rfl) (fun _ => rfl) (fun _ _ _ _ => rfl) sh_1 (Nat.le_of_ble_eq_true rfl) (by first | omega | exact bI_r _ | exact iI_r _) ?_
  refine s_vret dX9_init_18 rfl rfl ?_
  exact h
set_option maxHeartbeats 4000000 in
theorem c_X5_init_3 {E : ET} {I : MI} {L : ML} {R : MR} {Q : Option AV → MI → ML → MR → Prop}  (h : Q none (iX5 3 I) (lX5 3 L) (rX5 3 R)) : CT E (M_X5_init 4) (4) yX5_init [(vr (3))] I L R Q := by
  refine CT_of rfl rfl (fun _ => rfl) (Nat.le_of_ble_eq_true rfl) (fun X => ?_)
  show V X _ (0, 0, 4) 0 [some (vr (3))] [] I L R _
  refine s_aload_n 1 dX5_init_0 rfl rfl ?_
  refine s_obj 4 dX5_init_1 rfl cw_X5_3 cw_oi cw_oc (Nat.le_of_ble_eq_true rfl) (Nat.le_of_ble_eq_true rfl) ?_
  refine s_aload_n 5 dX5_init_4 rfl rfl ?_
  refine s_bipush 7 dX5_init_5 rfl (by decide) ?_
  refine s_iconst 8 dX5_init_7 rfl ?_
  refine s_newm (N := 7) (K := 5) 12 dX5_init_8 rfl rfl rfl nm_X5_9 na_i nao (by decide +kernel) (by decide +kernel) (Nat.le_of_ble_eq_true rfl) (Nat.le_of_ble_eq_true rfl) (Nat.le_of_ble_eq_true rfl) (Nat.le_of_ble_eq_true rfl) (Nat.le_of_ble_eq_true rfl) ?_
  refine s_putRF 15 dX5_init_12 rfl rfl (fun _ _ h => by cases h; rfl) fl_X5_11 (fun _ => rfl) (fun _ => rfl) (fun _ _ _ _ => rfl) sh_3 (Nat.le_of_ble_eq_true rfl) ?_
  refine s_aload_n 16 dX5_init_15 rfl rfl ?_
  refine s_bipush 18 dX5_init_16 rfl (by decide) ?_
  refine s_bipush 20 dX5_init_18 rfl (by decide) ?_
  refine s_newm (N := 14) (K := 7) 24 dX5_init_20 rfl rfl rfl nm_X5_9 na_i nao (by decide +kernel) (by decide +kernel) (Nat.le_of_ble_eq_true rfl) (Nat.le_of_ble_eq_true rfl) (Nat.le_of_ble_eq_true rfl) (Nat.le_of_ble_eq_true rfl) (Nat.le_of_ble_eq_true rfl) ?_
  refine s_putRF 27 dX5_init_24 rfl rfl (fun _ _ h => by cases h; rfl) fl_X5_16 (fun _ => rfl) (fun _ => rfl) (fun _ _ _ _ => rfl) sh_3 (Nat.le_of_ble_eq_true rfl) ?_
  refine s_aload_n 28 dX5_init_27 rfl rfl ?_
  refine s_bipush 30 dX5_init_28 rfl (by decide) ?_
  refine s_iconst 31 dX5_init_30 rfl ?_
  refine s_newm (N := 7) (K := 3) 35 dX5_init_31 rfl rfl rfl nm_X5_9 na_i nao (by decide +kernel) (by decide +kernel) (Nat.le_of_ble_eq_true rfl) (Nat.le_of_ble_eq_true rfl) (Nat.le_of_ble_eq_true rfl) (Nat.le_of_ble_eq_true rfl) (Nat.le_of_ble_eq_true rfl) ?_
  refine s_putRF 38 dX5_init_35 rfl rfl (fun _ _ h => by cases h; rfl) fl_X5_19 (fun _ => rfl) (fun _ => rfl) (fun _ _ _ _ => rfl) sh_3 (Nat.le_of_ble_eq_true rfl) ?_
  refine s_aload_n 39 dX5_init_38 rfl rfl ?_
  refine s_iconst 40 dX5_init_39 rfl ?_
  refine s_newi (N := 5) 42 dX5_init_40 rfl rfl na_i (by decide +kernel) (Nat.le_of_ble_eq_true rfl) (Nat.le_of_ble_eq_true rfl) (Nat.le_of_ble_eq_true rfl) (Nat.le_of_ble_eq_true rfl) ?_
  refine s_putRF 45 dX5_init_42 rfl rfl (fun _ _ h => by cases h; rfl) fl_X5_22 (fun _ => rfl) (fun _ => rfl) (fun _ _ _ _ => rfl) sh_3 (Nat.le_of_ble_eq_true rfl) ?_
  refine s_aload_n 46 dX5_init_45 rfl rfl ?_
  refine s_iconst 47 dX5_init_46 rfl ?_
  refine s_newi (N := 5) 49 dX5_init_47 rfl rfl na_i (by decide +kernel) (Nat.le_of_ble_eq_true rfl) (Nat.le_of_ble_eq_true rfl) (Nat.le_of_ble_eq_true rfl) (Nat.le_of_ble_eq_true rfl) ?_
  refine s_putRF 52 dX5_init_49 rfl rfl (fun _ _ h => by cases h; rfl) fl_X5_26 (fun _ => rfl) (fun _ => rfl) (fun _ _ _ _ => rfl) sh_3 (Nat.le_of_ble_eq_true rfl) ?_
  refine s_aload_n 53 dX5_init_52 rfl rfl ?_
  refine s_bipush 55 dX5_init_53 rfl (by decide) ?_
  refine s_newi (N := 7) 57 dX5_init_55 rfl rfl na_i (by decide +kernel) (Nat.le_of_ble_eq_true rfl) (Nat.le_of_ble_eq_true rfl) (Nat.le_of_ble_eq_true rfl) (Nat.le_of_ble_eq_true rfl) ?_
  refine s_putRF 60 dX5_init_57 rfl rfl (fun _ _ h => by cases h; rfl) fl_X5_29 (fun _ => rfl) (fun _ => rfl) (fun _ _ _ _ => rfl) sh_3 (Nat.le_of_ble_eq_true rfl) ?_
  refine s_aload_n 61 dX5_init_60 rfl rfl ?_
  refine s_bipush 63 dX5_init_61 rfl (by decide) ?_
  refine s_newi (N := 120) 65 dX5_init_63 rfl rfl na_i (by decide +kernel) (Nat.le_of_ble_eq_true rfl) (Nat.le_of_ble_eq_true rfl) (Nat.le_of_ble_eq_true rfl) (Nat.le_of_ble_eq_true rfl) ?_
  refine s_putRF 68 dX5_init_65 rfl rfl (fun _ _ h => by cases h; rfl) fl_X5_32 (fun _ => rfl) (fun _ => rfl) (fun _ _ _ _ => rfl) sh_3 (Nat.le_of_ble_eq_true rfl) ?_
  refine s_vret dX5_init_68 rfl rfl ?_
  exact h
set_option maxHeartbeats 4000000 in
theorem c_X5_init_39 {E : ET} {I : MI} {L : ML} {R : MR} {Q : Option AV → MI → ML → MR → Prop}  (h : Q none (iX5 39 I) (lX5 39 L) (rX5 39 R)) : CT E (M_X5_init 40) (40) yX5_init [(vr (39))] I L R Q := by
  refine CT_of rfl rfl (fun _ => rfl) (Nat.le_of_ble_eq_true rfl) (fun X => ?_)
  show V X _ (0, 0, 40) 0 [some (vr (39))] [] I L R _
  refine s_aload_n 1 dX5_init_0 rfl rfl ?_
  refine s_obj 4 dX5_init_1 rfl cw_X5_3 cw_oi cw_oc (Nat.le_of_ble_eq_true rfl) (Nat.le_of_ble_eq_true rfl) ?_
  refine s_aload_n 5 dX5_init_4 rfl rfl ?_
  refine s_bipush 7 dX5_init_5 rfl (by decide) ?_
  refine s_iconst 8 dX5_init_7 rfl ?_
  refine s_newm (N := 7) (K := 5) 12 dX5_init_8 rfl rfl rfl nm_X5_9 na_i nao (by decide +kernel) (by decide +kernel) (Nat.le_of_ble_eq_true rfl) (Nat.le_of_ble_eq_true rfl) (Nat.le_of_ble_eq_true rfl) (Nat.le_of_ble_eq_true rfl) (Nat.le_of_ble_eq_true rfl) ?_
  refine s_putRF 15 dX5_init_12 rfl rfl (fun _ _ h => by cases h; rfl) fl_X5_11 (fun _ => rfl) (fun _ => rfl) (fun _ _ _ _ => rfl) sh_39 (Nat.le_of_ble_eq_true rfl) ?_
  refine s_aload_n 16 dX5_init_15 rfl rfl ?_
  refine s_bipush 18 dX5_init_16 rfl (by decide) ?_
  refine s_bipush 20 dX5_init_18 rfl (by decide) ?_
  refine s_newm (N := 14) (K := 7) 24 dX5_init_20 rfl rfl rfl nm_X5_9 na_i nao (by decide +kernel) (by decide +kernel) (Nat.le_of_ble_eq_true rfl) (Nat.le_of_ble_eq_true rfl) (Nat.le_of_ble_eq_true rfl) (Nat.le_of_ble_eq_true rfl) (Nat.le_of_ble_eq_true rfl) ?_
  refine s_putRF 27 dX5_init_24 rfl rfl (fun _ _ h => by cases h; rfl) fl_X5_16 (fun _ => rfl) (fun _ => rfl) (fun _ _ _ _ => rfl) sh_39 (Nat.le_of_ble_eq_true rfl) ?_
  refine s_aload_n 28 dX5_init_27 rfl rfl ?_
  refine s_bipush 30 dX5_init_28 rfl (by decide) ?_
  refine s_iconst 31 dX5_init_30 rfl ?_
  refine s_newm (N := 7) (K := 3) 35 dX5_init_31 rfl rfl rfl nm_X5_9 na_i nao (by decide +kernel) (by decide +kernel) (Nat.le_of_ble_eq_true rfl) (Nat.le_of_ble_eq_true rfl) (Nat.le_of_ble_eq_true rfl) (Nat.le_of_ble_eq_true rfl) (Nat.le_of_ble_eq_true rfl) ?_
  refine s_putRF 38 dX5_init_35 rfl rfl (fun _ _ h => by cases h; rfl) fl_X5_19 (fun _ => rfl) (fun _ => rfl) (fun _ _ _ _ => rfl) sh_39 (Nat.le_of_ble_eq_true rfl) ?_
  refine s_aload_n 39 dX5_init_38 rfl rfl ?_
  refine s_iconst 40 dX5_init_39 rfl ?_
  refine s_newi (N := 5) 42 dX5_init_40 rfl rfl na_i (by decide +kernel) (Nat.le_of_ble_eq_true rfl) (Nat.le_of_ble_eq_true rfl) (Nat.le_of_ble_eq_true rfl) (Nat.le_of_ble_eq_true rfl) ?_
  refine s_putRF 45 dX5_init_42 rfl rfl (fun _ _ h => by cases h; rfl) fl_X5_22 (fun _ => rfl) (fun _ => rfl) (fun _ _ _ _ => rfl) sh_39 (Nat.le_of_ble_eq_true rfl) ?_
  refine s_aload_n 46 dX5_init_45 rfl rfl ?_
  refine s_iconst 47 dX5_init_46 rfl ?_
  refine s_newi (N := 5) 49 dX5_init_47 rfl rfl na_i (by decide +kernel) (Nat.le_of_ble_eq_true rfl) (Nat.le_of_ble_eq_true rfl) (Nat.le_of_ble_eq_true rfl) (Nat.le_of_ble_eq_true rfl) ?_
  refine s_putRF 52 dX5_init_49 rfl rfl (fun _ _ h => by cases h; rfl) fl_X5_26 (fun _ => rfl) (fun _ => rfl) (fun _ _ _ _ => rfl) sh_39 (Nat.le_of_ble_eq_true rfl) ?_
  refine s_aload_n 53 dX5_init_52 rfl rfl ?_
  refine s_bipush 55 dX5_init_53 rfl (by decide) ?_
  refine s_newi (N := 7) 57 dX5_init_55 rfl rfl na_i (by decide +kernel) (Nat.le_of_ble_eq_true rfl) (Nat.le_of_ble_eq_true rfl) (Nat.le_of_ble_eq_true rfl) (Nat.le_of_ble_eq_true rfl) ?_
  refine s_putRF 60 dX5_init_57 rfl rfl (fun _ _ h => by cases h; rfl) fl_X5_29 (fun _ => rfl) (fun _ => rfl) (fun _ _ _ _ => rfl) sh_39 (Nat.le_of_ble_eq_true rfl) ?_
  refine s_aload_n 61 dX5_init_60 rfl rfl ?_
  refine s_bipush 63 dX5_init_61 rfl (by decide) ?_
  refine s_newi (N := 120) 65 dX5_init_63 rfl rfl na_i (by decide +kernel) (Nat.le_of_ble_eq_true rfl) (Nat.le_of_ble_eq_true rfl) (Nat.le_of_ble_eq_true rfl) (Nat.le_of_ble_eq_true rfl) ?_
  refine s_putRF 68 dX5_init_65 rfl rfl (fun _ _ h => by cases h; rfl) fl_X5_32 (fun _ => rfl) (fun _ => rfl) (fun _ _ _ _ => rfl) sh_39 (Nat.le_of_ble_eq_true rfl) ?_
  refine s_vret dX5_init_68 rfl rfl ?_
  exact h
set_option maxHeartbeats 4000000 in
theorem c_X10_init_79 {E : ET} {I : MI} {L : ML} {R : MR} {Q : Option AV → MI → ML → MR → Prop}  (h : Q none (iX10 79 I) (lX10 79 L) (rX10 1 79 R)) : CT E (M_X10_init 80) (80) yX10_init [(vr (79)), (vr (1))] I L R Q := by
  refine CT_of rfl rfl (fun _ => rfl) (Nat.le_of_ble_eq_true rfl) (fun X => ?_)
  show V X _ (0, 0, 80) 0 [some (vr (79)), some (vr (1))] [] I L R _
  refine s_aload_n 1 dX10_init_0 rfl rfl ?_
  refine s_obj 4 dX10_init_1 rfl cw_X10_1 cw_oi cw_oc (Nat.le_of_ble_eq_true rfl) (Nat.le_of_ble_eq_true rfl) ?_
  refine s_aload_n 5 dX10_init_4 rfl rfl ?_
  refine s_aload_n 6 dX10_init_5 rfl rfl ?_
  refine s_putRF 9 dX10_init_6 rfl rfl (fun _ _ h => by cases h; rfl) fl_X10_7 (fun _ => rfl) (fun _ => rfl) (fun _ _ _ _ => rfl) sh_79 (Nat.le_of_ble_eq_true rfl) ?_
  refine s_vret dX10_init_9 rfl rfl ?_
  exact h
set_option maxHeartbeats 4000000 in
theorem c_X6_init_75 {E : ET} {I : MI} {L : ML} {R : MR} {Q : Option AV → MI → ML → MR → Prop}  (h : Q none (iX6 75 I) (lX6 75 L) (rX6 1 39 75 R)) : CT E (M_X6_init 76) (76) yX6_init [(vr (75)), (vr (1)), (vr (39))] I L R Q := by
  refine CT_of rfl rfl (fun _ => rfl) (Nat.le_of_ble_eq_true rfl) (fun X => ?_)
  show V X _ (0, 0, 76) 0 [some (vr (75)), some (vr (1)), some (vr (39))] [] I L R _
  refine s_aload_n 1 dX6_init_0 rfl rfl ?_
  refine s_obj 4 dX6_init_1 rfl cw_X6_3 cw_oi cw_oc (Nat.le_of_ble_eq_true rfl) (Nat.le_of_ble_eq_true rfl) ?_
  refine s_aload_n 5 dX6_init_4 rfl rfl ?_
  refine s_bipush 7 dX6_init_5 rfl (by decide) ?_
  refine s_newl (N := 7) 9 dX6_init_7 rfl rfl na_l (by decide +kernel) (Nat.le_of_ble_eq_true rfl) (Nat.le_of_ble_eq_true rfl) (Nat.le_of_ble_eq_true rfl) (Nat.le_of_ble_eq_true rfl) ?_
  refine s_putRF 12 dX6_init_9 rfl rfl (fun _ _ h => by cases h; rfl) fl_X6_9 (fun _ => rfl) (fun _ => rfl) (fun _ _ _ _ => rfl) sh_75 (Nat.le_of_ble_eq_true rfl) ?_
  refine s_aload_n 13 dX6_init_12 rfl rfl ?_
  refine s_iconst 14 dX6_init_13 rfl ?_
  refine s_newl (N := 5) 16 dX6_init_14 rfl rfl na_l (by decide +kernel) (Nat.le_of_ble_eq_true rfl) (Nat.le_of_ble_eq_true rfl) (Nat.le_of_ble_eq_true rfl) (Nat.le_of_ble_eq_true rfl) ?_
  refine s_putRF 19 dX6_init_16 rfl rfl (fun _ _ h => by cases h; rfl) fl_X6_15 (fun _ => rfl) (fun _ => rfl) (fun _ _ _ _ => rfl) sh_75 (Nat.le_of_ble_eq_true rfl) ?_
  refine s_aload_n 20 dX6_init_19 rfl rfl ?_
  refine s_bipush 22 dX6_init_20 rfl (by decide) ?_
  refine s_newi (N := 8) 24 dX6_init_22 rfl rfl na_i (by decide +kernel) (Nat.le_of_ble_eq_true rfl) (Nat.le_of_ble_eq_true rfl) (Nat.le_of_ble_eq_true rfl) (Nat.le_of_ble_eq_true rfl) ?_
  refine s_putRF 27 dX6_init_24 rfl rfl (fun _ _ h => by cases h; rfl) fl_X6_18 (fun _ => rfl) (fun _ => rfl) (fun _ _ _ _ => rfl) sh_75 (Nat.le_of_ble_eq_true rfl) ?_
  refine s_aload_n 28 dX6_init_27 rfl rfl ?_
  refine s_newo (ci := 9) 31 dX6_init_28 rfl rfl (by decide) inX10 nw_X6_22 nwi_X10 nwn_X10 tyX10_ok nok_X10 (by decide +kernel) (Nat.le_of_ble_eq_true rfl) (Nat.le_of_ble_eq_true rfl) (Nat.le_of_ble_eq_true rfl) ?_
  refine s_dup 32 dX6_init_31 rfl rfl ?_
  refine s_aload_n 33 dX6_init_32 rfl rfl ?_
  refine s_callI (M' := M_X10_init 80) (as := [_]) 36 dX6_init_33 rfl cw_X6_24 rfl rfl (Nat.le_of_ble_eq_true rfl) (Nat.le_of_ble_eq_true rfl) (Nat.le_of_ble_eq_true rfl) (Nat.le_of_ble_eq_true rfl) (Nat.le_of_ble_eq_true rfl) ?_
  refine c_X10_init_79 ?_
  refine s_putRF 39 dX6_init_36 rfl rfl (fun _ _ h => by cases h; rfl) fl_X6_27 (fun _ => rfl) (fun _ => rfl) (fun _ _ _ _ => rfl) sh_75 (Nat.le_of_ble_eq_true rfl) ?_
  refine s_aload_n 40 dX6_init_39 rfl rfl ?_
  refine s_aload_n 41 dX6_init_40 rfl rfl ?_
  refine s_putR 44 dX6_init_41 rfl fl_X6_31 (fun _ => rfl) (fun _ => rfl) (fun _ _ _ _ => rfl) sh_75 (Nat.le_of_ble_eq_true rfl) ?_
  refine s_vret dX6_init_44 rfl rfl ?_
  exact h
set_option maxHeartbeats 4000000 in
theorem c_X2_init_80 {E : ET} {I : MI} {L : ML} {R : MR} {Q : Option AV → MI → ML → MR → Prop}  (h : Q none (iX2 80 I) (lX2 80 L) (rX2 80 R)) : CT E (M_X2_init 81) (81) yX2_init [(vr (80))] I L R Q := by
  refine CT_of rfl rfl (fun _ => rfl) (Nat.le_of_ble_eq_true rfl) (fun X => ?_)
  show V X _ (0, 0, 81) 0 [some (vr (80))] [] I L R _
  refine s_aload_n 1 dX2_init_0 rfl rfl ?_
  refine s_obj 4 dX2_init_1 rfl cw_X2_1 cw_oi cw_oc (Nat.le_of_ble_eq_true rfl) (Nat.le_of_ble_eq_true rfl) ?_
  refine s_aload_n 5 dX2_init_4 rfl rfl ?_
  refine s_iconst 6 dX2_init_5 rfl ?_
  refine s_putI 9 dX2_init_6 rfl fl_X2_7 (fun _ => rfl) (fun _ => rfl) (fun _ _ _ _ => rfl) sh_80 (Nat.le_of_ble_eq_true rfl) (by first | omega | exact bI_r _ | exact iI_r _) ?_
  refine s_aload_n 10 dX2_init_9 rfl rfl ?_
  refine s_iconst 11 dX2_init_10 rfl ?_
  refine s_putI 14 dX2_init_11 rfl fl_X2_13 (fun _ => rfl) (fun _ => rfl) (fun _ _ _ _ => rfl) sh_80 (Nat.le_of_ble_eq_true rfl) (by first | omega | exact bI_r _ | exact iI_r _) ?_
  refine s_aload_n 15 dX2_init_14 rfl rfl ?_
  refine s_iconst 16 dX2_init_15 rfl ?_
  refine s_putI 19 dX2_init_16 rfl fl_X2_16 (fun _ => rfl) (fun _ => rfl) (fun _ _ _ _ => rfl) sh_80 (Nat.le_of_ble_eq_true rfl) (by first | omega | exact bI_r _ | exact iI_r _) ?_
  refine s_vret dX2_init_19 rfl rfl ?_
  exact h
set_option maxHeartbeats 4000000 in
theorem c_X0_init_81 {E : ET} {I : MI} {L : ML} {R : MR} {Q : Option AV → MI → ML → MR → Prop}  (h : Q none (iX0 81 I) (lX0 81 L) (rX0 81 R)) : CT E (M_X0_init 82) (82) yX0_init [(vr (81))] I L R Q := by
  refine CT_of rfl rfl (fun _ => rfl) (Nat.le_of_ble_eq_true rfl) (fun X => ?_)
  show V X _ (0, 0, 82) 0 [some (vr (81))] [] I L R _
  refine s_aload_n 1 dX0_init_0 rfl rfl ?_
  refine s_obj 4 dX0_init_1 rfl cw_X0_3 cw_oi cw_oc (Nat.le_of_ble_eq_true rfl) (Nat.le_of_ble_eq_true rfl) ?_
  refine s_aload_n 5 dX0_init_4 rfl rfl ?_
  refine s_bipush 7 dX0_init_5 rfl (by decide) ?_
  refine s_newl (N := 12) 9 dX0_init_7 rfl rfl na_l (by decide +kernel) (Nat.le_of_ble_eq_true rfl) (Nat.le_of_ble_eq_true rfl) (Nat.le_of_ble_eq_true rfl) (Nat.le_of_ble_eq_true rfl) ?_
  refine s_putRF 12 dX0_init_9 rfl rfl (fun _ _ h => by cases h; rfl) fl_X0_9 (fun _ => rfl) (fun _ => rfl) (fun _ _ _ _ => rfl) sh_81 (Nat.le_of_ble_eq_true rfl) ?_
  refine s_aload_n 13 dX0_init_12 rfl rfl ?_
  refine s_iconst 14 dX0_init_13 rfl ?_
  refine s_putI 17 dX0_init_14 rfl fl_X0_15 (fun _ => rfl) (fun _ => rfl) (fun _ _ _ _ => rfl) sh_81 (Nat.le_of_ble_eq_true rfl) (by first | omega | exact bI_r _ | exact iI_r _) ?_
  refine s_aload_n 18 dX0_init_17 rfl rfl ?_
  refine s_bipush 20 dX0_init_18 rfl (by decide) ?_
  refine s_newl (N := 12) 22 dX0_init_20 rfl rfl na_l (by decide +kernel) (Nat.le_of_ble_eq_true rfl) (Nat.le_of_ble_eq_true rfl) (Nat.le_of_ble_eq_true rfl) (Nat.le_of_ble_eq_true rfl) ?_
  refine s_putRF 25 dX0_init_22 rfl rfl (fun _ _ h => by cases h; rfl) fl_X0_19 (fun _ => rfl) (fun _ => rfl) (fun _ _ _ _ => rfl) sh_81 (Nat.le_of_ble_eq_true rfl) ?_
  refine s_aload_n 26 dX0_init_25 rfl rfl ?_
  refine s_iconst 27 dX0_init_26 rfl ?_
  refine s_putI 30 dX0_init_27 rfl fl_X0_22 (fun _ => rfl) (fun _ => rfl) (fun _ _ _ _ => rfl) sh_81 (Nat.le_of_ble_eq_true rfl) (by first | omega | exact bI_r _ | exact iI_r _) ?_
  refine s_aload_n 31 dX0_init_30 rfl rfl ?_
  refine s_iconst 32 dX0_init_31 rfl ?_
  refine s_newl (N := 3) 34 dX0_init_32 rfl rfl na_l (by decide +kernel) (Nat.le_of_ble_eq_true rfl) (Nat.le_of_ble_eq_true rfl) (Nat.le_of_ble_eq_true rfl) (Nat.le_of_ble_eq_true rfl) ?_
  refine s_putRF 37 dX0_init_34 rfl rfl (fun _ _ h => by cases h; rfl) fl_X0_25 (fun _ => rfl) (fun _ => rfl) (fun _ _ _ _ => rfl) sh_81 (Nat.le_of_ble_eq_true rfl) ?_
  refine s_aload_n 38 dX0_init_37 rfl rfl ?_
  refine s_iconst 39 dX0_init_38 rfl ?_
  refine s_putI 42 dX0_init_39 rfl fl_X0_28 (fun _ => rfl) (fun _ => rfl) (fun _ _ _ _ => rfl) sh_81 (Nat.le_of_ble_eq_true rfl) (by first | omega | exact bI_r _ | exact iI_r _) ?_
  refine s_vret dX0_init_42 rfl rfl ?_
  exact h
set_option maxHeartbeats 4000000 in
theorem c_X3_init_85 {E : ET} {I : MI} {L : ML} {R : MR} {Q : Option AV → MI → ML → MR → Prop}  (h : Q none (iX3 85 I) (lX3 85 L) (rX3n 85 R)) : CT E (M_X3_init 86) (86) yX3_init [(vr (85))] I L R Q := by
  refine CT_of rfl rfl (fun _ => rfl) (Nat.le_of_ble_eq_true rfl) (fun X => ?_)
  show V X _ (0, 0, 86) 0 [some (vr (85))] [] I L R _
  refine s_aload_n 1 dX3_init_0 rfl rfl ?_
  refine s_obj 4 dX3_init_1 rfl cw_X3_3 cw_oi cw_oc (Nat.le_of_ble_eq_true rfl) (Nat.le_of_ble_eq_true rfl) ?_
  refine s_aload_n 5 dX3_init_4 rfl rfl ?_
  refine s_sipush 8 dX3_init_5 rfl (by decide) ?_
  refine s_newi (N := 128) 10 dX3_init_8 rfl rfl na_i (by decide +kernel) (Nat.le_of_ble_eq_true rfl) (Nat.le_of_ble_eq_true rfl) (Nat.le_of_ble_eq_true rfl) (Nat.le_of_ble_eq_true rfl) ?_
  refine s_putRF 13 dX3_init_10 rfl rfl (fun _ _ h => by cases h; rfl) fl_X3_9_3 (fun _ => rfl) (fun _ => rfl) (fun _ _ _ _ => rfl) sh_85 (Nat.le_of_ble_eq_true rfl) ?_
  refine s_vret dX3_init_13 rfl rfl ?_
  exact h
set_option maxHeartbeats 4000000 in
theorem c_X3_init_113 {E : ET} {I : MI} {L : ML} {R : MR} {Q : Option AV → MI → ML → MR → Prop}  (h : Q none (iX3 113 I) (lX3 113 L) (rX3n 113 R)) : CT E (M_X3_init 114) (114) yX3_init [(vr (113))] I L R Q := by
  refine CT_of rfl rfl (fun _ => rfl) (Nat.le_of_ble_eq_true rfl) (fun X => ?_)
  show V X _ (0, 0, 114) 0 [some (vr (113))] [] I L R _
  refine s_aload_n 1 dX3_init_0 rfl rfl ?_
  refine s_obj 4 dX3_init_1 rfl cw_X3_3 cw_oi cw_oc (Nat.le_of_ble_eq_true rfl) (Nat.le_of_ble_eq_true rfl) ?_
  refine s_aload_n 5 dX3_init_4 rfl rfl ?_
  refine s_sipush 8 dX3_init_5 rfl (by decide) ?_
  refine s_newi (N := 128) 10 dX3_init_8 rfl rfl na_i (by decide +kernel) (Nat.le_of_ble_eq_true rfl) (Nat.le_of_ble_eq_true rfl) (Nat.le_of_ble_eq_true rfl) (Nat.le_of_ble_eq_true rfl) ?_
  refine s_putRF 13 dX3_init_10 rfl rfl (fun _ _ h => by cases h; rfl) fl_X3_9_3 (fun _ => rfl) (fun _ => rfl) (fun _ _ _ _ => rfl) sh_113 (Nat.le_of_ble_eq_true rfl) ?_
  refine s_vret dX3_init_13 rfl rfl ?_
  exact h
set_option maxHeartbeats 4000000 in
theorem c_X3_init_135 {E : ET} {I : MI} {L : ML} {R : MR} {Q : Option AV → MI → ML → MR → Prop}  (h : Q none (iX3 135 I) (lX3 135 L) (rX3s 135 R)) : CT E (M_X3_init 136) (136) yX3_init [(vr (135))] I L R Q := by
  refine CT_of rfl rfl (fun _ => rfl) (Nat.le_of_ble_eq_true rfl) (fun X => ?_)
  show V X _ (0, 0, 136) 0 [some (vr (135))] [] I L R _
  refine s_aload_n 1 dX3_init_0 rfl rfl ?_
  refine s_obj 4 dX3_init_1 rfl cw_X3_3 cw_oi cw_oc (Nat.le_of_ble_eq_true rfl) (Nat.le_of_ble_eq_true rfl) ?_
  refine s_aload_n 5 dX3_init_4 rfl rfl ?_
  refine s_sipush 8 dX3_init_5 rfl (by decide) ?_
  refine s_newi (N := 128) 10 dX3_init_8 rfl rfl na_i (by decide +kernel) (Nat.le_of_ble_eq_true rfl) (Nat.le_of_ble_eq_true rfl) (Nat.le_of_ble_eq_true rfl) (Nat.le_of_ble_eq_true rfl) ?_
  refine s_putRF 13 dX3_init_10 rfl rfl (fun _ _ h => by cases h; rfl) fl_X3_9_7 (fun _ => rfl) (fun _ => rfl) (fun _ _ _ _ => rfl) sh_135 (Nat.le_of_ble_eq_true rfl) ?_
  refine s_vret dX3_init_13 rfl rfl ?_
  exact h
set_option maxHeartbeats 4000000 in
theorem c_X4_init_85 {E : ET} {I : MI} {L : ML} {R : MR} {Q : Option AV → MI → ML → MR → Prop}  (h : Q none (iX4 85 I) (lX4 85 L) (rX4 3 85 R)) : CT E (M_X4_init 86) (86) yX4_init [(vr (85)), (vr (3))] I L R Q := by
  refine CT_of rfl rfl (fun _ => rfl) (Nat.le_of_ble_eq_true rfl) (fun X => ?_)
  show V X _ (0, 0, 86) 0 [some (vr (85)), some (vr (3))] [] I L R _
  refine s_aload_n 1 dX4_init_0 rfl rfl ?_
  refine s_callIN (M' := M_X3_init 86) (as := []) 4 dX4_init_1 rfl cw_X4_3 rfl rfl (Nat.le_of_ble_eq_true rfl) (Nat.le_of_ble_eq_true rfl) (Nat.le_of_ble_eq_true rfl) (Nat.le_of_ble_eq_true rfl) (Nat.le_of_ble_eq_true rfl) ?_
  refine c_X3_init_85 ?_
  refine s_aload_n 5 dX4_init_4 rfl rfl ?_
  refine s_bipush 7 dX4_init_5 rfl (by decide) ?_
  refine s_bipush 9 dX4_init_7 rfl (by decide) ?_
  refine s_newm (N := 14) (K := 14) 13 dX4_init_9 rfl rfl rfl nm_X4_9 na_i nao (by decide +kernel) (by decide +kernel) (Nat.le_of_ble_eq_true rfl) (Nat.le_of_ble_eq_true rfl) (Nat.le_of_ble_eq_true rfl) (Nat.le_of_ble_eq_true rfl) (Nat.le_of_ble_eq_true rfl) ?_
  refine s_putRF 16 dX4_init_13 rfl rfl (fun _ _ h => by cases h; rfl) fl_X4_11 (fun _ => rfl) (fun _ => rfl) (fun _ _ _ _ => rfl) sh_85 (Nat.le_of_ble_eq_true rfl) ?_
  refine s_aload_n 17 dX4_init_16 rfl rfl ?_
  refine s_bipush 19 dX4_init_17 rfl (by decide) ?_
  refine s_newi (N := 14) 21 dX4_init_19 rfl rfl na_i (by decide +kernel) (Nat.le_of_ble_eq_true rfl) (Nat.le_of_ble_eq_true rfl) (Nat.le_of_ble_eq_true rfl) (Nat.le_of_ble_eq_true rfl) ?_
  refine s_putRF 24 dX4_init_21 rfl rfl (fun _ _ h => by cases h; rfl) fl_X4_16 (fun _ => rfl) (fun _ => rfl) (fun _ _ _ _ => rfl) sh_85 (Nat.le_of_ble_eq_true rfl) ?_
  refine s_aload_n 25 dX4_init_24 rfl rfl ?_
  refine s_iconst 26 dX4_init_25 rfl ?_
  refine s_newi (N := 5) 28 dX4_init_26 rfl rfl na_i (by decide +kernel) (Nat.le_of_ble_eq_true rfl) (Nat.le_of_ble_eq_true rfl) (Nat.le_of_ble_eq_true rfl) (Nat.le_of_ble_eq_true rfl) ?_
  refine s_putRF 31 dX4_init_28 rfl rfl (fun _ _ h => by cases h; rfl) fl_X4_20 (fun _ => rfl) (fun _ => rfl) (fun _ _ _ _ => rfl) sh_85 (Nat.le_of_ble_eq_true rfl) ?_
  refine s_aload_n 32 dX4_init_31 rfl rfl ?_
  refine s_bipush 34 dX4_init_32 rfl (by decide) ?_
  refine s_newi (N := 14) 36 dX4_init_34 rfl rfl na_i (by decide +kernel) (Nat.le_of_ble_eq_true rfl) (Nat.le_of_ble_eq_true rfl) (Nat.le_of_ble_eq_true rfl) (Nat.le_of_ble_eq_true rfl) ?_
  refine s_putRF 39 dX4_init_36 rfl rfl (fun _ _ h => by cases h; rfl) fl_X4_23 (fun _ => rfl) (fun _ => rfl) (fun _ _ _ _ => rfl) sh_85 (Nat.le_of_ble_eq_true rfl) ?_
  refine s_aload_n 40 dX4_init_39 rfl rfl ?_
  refine s_bipush 42 dX4_init_40 rfl (by decide) ?_
  refine s_newi (N := 14) 44 dX4_init_42 rfl rfl na_i (by decide +kernel) (Nat.le_of_ble_eq_true rfl) (Nat.le_of_ble_eq_true rfl) (Nat.le_of_ble_eq_true rfl) (Nat.le_of_ble_eq_true rfl) ?_
  refine s_putRF 47 dX4_init_44 rfl rfl (fun _ _ h => by cases h; rfl) fl_X4_26 (fun _ => rfl) (fun _ => rfl) (fun _ _ _ _ => rfl) sh_85 (Nat.le_of_ble_eq_true rfl) ?_
  refine s_aload_n 48 dX4_init_47 rfl rfl ?_
  refine s_bipush 50 dX4_init_48 rfl (by decide) ?_
  refine s_newi (N := 14) 52 dX4_init_50 rfl rfl na_i (by decide +kernel) (Nat.le_of_ble_eq_true rfl) (Nat.le_of_ble_eq_true rfl) (Nat.le_of_ble_eq_true rfl) (Nat.le_of_ble_eq_true rfl) ?_
  refine s_putRF 55 dX4_init_52 rfl rfl (fun _ _ h => by cases h; rfl) fl_X4_29 (fun _ => rfl) (fun _ => rfl) (fun _ _ _ _ => rfl) sh_85 (Nat.le_of_ble_eq_true rfl) ?_
  refine s_aload_n 56 dX4_init_55 rfl rfl ?_
  refine s_iconst 57 dX4_init_56 rfl ?_
  refine s_putI 60 dX4_init_57 rfl fl_X4_32 (fun _ => x_nz (by omega)) (fun _ => rfl) (fun _ _ _ _ => rfl) sh_85 (Nat.le_of_ble_eq_true rfl) (by first | omega | exact bI_r _ | exact iI_r _) ?_
  refine s_aload_n 61 dX4_init_60 rfl rfl ?_
  refine s_iconst 62 dX4_init_61 rfl ?_
  refine s_putI 65 dX4_init_62 rfl fl_X4_36 (fun _ => rfl) (fun _ => rfl) (fun _ _ _ _ => rfl) sh_85 (Nat.le_of_ble_eq_true rfl) (by first | omega | exact bI_r _ | exact iI_r _) ?_
  refine s_aload_n 66 dX4_init_65 rfl rfl ?_
  refine s_iconst 67 dX4_init_66 rfl ?_
  refine s_putI 70 dX4_init_67 rfl fl_X4_40 (fun _ => rfl) (fun _ => rfl) (fun _ _ _ _ => rfl) sh_85 (Nat.le_of_ble_eq_true rfl) (by first | omega | exact bI_r _ | exact iI_r _) ?_
  refine s_aload_n 71 dX4_init_70 rfl rfl ?_
  refine s_iconst 72 dX4_init_71 rfl ?_
  refine s_putI 75 dX4_init_72 rfl fl_X4_43 (fun _ => rfl) (fun _ => rfl) (fun _ _ _ _ => rfl) sh_85 (Nat.le_of_ble_eq_true rfl) (by first | omega | exact bI_r _ | exact iI_r _) ?_
  refine s_aload_n 76 dX4_init_75 rfl rfl ?_
  refine s_iconst 77 dX4_init_76 rfl ?_
  refine s_putI 80 dX4_init_77 rfl fl_X4_46 (fun _ => rfl) (fun _ => rfl) (fun _ _ _ _ => rfl) sh_85 (Nat.le_of_ble_eq_true rfl) (by first | omega | exact bI_r _ | exact iI_r _) ?_
  refine s_aload_n 81 dX4_init_80 rfl rfl ?_
  refine s_aload_n 82 dX4_init_81 rfl rfl ?_
  refine s_putR 85 dX4_init_82 rfl fl_X4_49 (fun _ => rfl) (fun _ => rfl) (fun _ _ _ _ => rfl) sh_85 (Nat.le_of_ble_eq_true rfl) ?_
  refine s_vret dX4_init_85 rfl rfl ?_
  exact h
set_option maxHeartbeats 4000000 in
theorem c_X4_init_113 {E : ET} {I : MI} {L : ML} {R : MR} {Q : Option AV → MI → ML → MR → Prop}  (h : Q none (iX4 113 I) (lX4 113 L) (rX4 3 113 R)) : CT E (M_X4_init 114) (114) yX4_init [(vr (113)), (vr (3))] I L R Q := by
  refine CT_of rfl rfl (fun _ => rfl) (Nat.le_of_ble_eq_true rfl) (fun X => ?_)
  show V X _ (0, 0, 114) 0 [some (vr (113)), some (vr (3))] [] I L R _
  refine s_aload_n 1 dX4_init_0 rfl rfl ?_
  refine s_callIN (M' := M_X3_init 114) (as := []) 4 dX4_init_1 rfl cw_X4_3 rfl rfl (Nat.le_of_ble_eq_true rfl) (Nat.le_of_ble_eq_true rfl) (Nat.le_of_ble_eq_true rfl) (Nat.le_of_ble_eq_true rfl) (Nat.le_of_ble_eq_true rfl) ?_
  refine c_X3_init_113 ?_
  refine s_aload_n 5 dX4_init_4 rfl rfl ?_
  refine s_bipush 7 dX4_init_5 rfl (by decide) ?_
  refine s_bipush 9 dX4_init_7 rfl (by decide) ?_
  refine s_newm (N := 14) (K := 14) 13 dX4_init_9 rfl rfl rfl nm_X4_9 na_i nao (by decide +kernel) (by decide +kernel) (Nat.le_of_ble_eq_true rfl) (Nat.le_of_ble_eq_true rfl) (Nat.le_of_ble_eq_true rfl) (Nat.le_of_ble_eq_true rfl) (Nat.le_of_ble_eq_true rfl) ?_
  refine s_putRF 16 dX4_init_13 rfl rfl (fun _ _ h => by cases h; rfl) fl_X4_11 (fun _ => rfl) (fun _ => rfl) (fun _ _ _ _ => rfl) sh_113 (Nat.le_of_ble_eq_true rfl) ?_
  refine s_aload_n 17 dX4_init_16 rfl rfl ?_
  refine s_bipush 19 dX4_init_17 rfl (by decide) ?_
  refine s_newi (N := 14) 21 dX4_init_19 rfl rfl na_i (by decide +kernel) (Nat.le_of_ble_eq_true rfl) (Nat.le_of_ble_eq_true rfl) (Nat.le_of_ble_eq_true rfl) (Nat.le_of_ble_eq_true rfl) ?_
  refine s_putRF 24 dX4_init_21 rfl rfl (fun _ _ h => by cases h; rfl) fl_X4_16 (fun _ => rfl) (fun _ => rfl) (fun _ _ _ _ => rfl) sh_113 (Nat.le_of_ble_eq_true rfl) ?_
  refine s_aload_n 25 dX4_init_24 rfl rfl ?_
  refine s_iconst 26 dX4_init_25 rfl ?_
  refine s_newi (N := 5) 28 dX4_init_26 rfl rfl na_i (by decide +kernel) (Nat.le_of_ble_eq_true rfl) (Nat.le_of_ble_eq_true rfl) (Nat.le_of_ble_eq_true rfl) (Nat.le_of_ble_eq_true rfl) ?_
  refine s_putRF 31 dX4_init_28 rfl rfl (fun _ _ h => by cases h; rfl) fl_X4_20 (fun _ => rfl) (fun _ => rfl) (fun _ _ _ _ => rfl) sh_113 (Nat.le_of_ble_eq_true rfl) ?_
  refine s_aload_n 32 dX4_init_31 rfl rfl ?_
  refine s_bipush 34 dX4_init_32 rfl (by decide) ?_
  refine s_newi (N := 14) 36 dX4_init_34 rfl rfl na_i (by decide +kernel) (Nat.le_of_ble_eq_true rfl) (Nat.le_of_ble_eq_true rfl) (Nat.le_of_ble_eq_true rfl) (Nat.le_of_ble_eq_true rfl) ?_
  refine s_putRF 39 dX4_init_36 rfl rfl (fun _ _ h => by cases h; rfl) fl_X4_23 (fun _ => rfl) (fun _ => rfl) (fun _ _ _ _ => rfl) sh_113 (Nat.le_of_ble_eq_true rfl) ?_
  refine s_aload_n 40 dX4_init_39 rfl rfl ?_
  refine s_bipush 42 dX4_init_40 rfl (by decide) ?_
  refine s_newi (N := 14) 44 dX4_init_42 rfl rfl na_i (by decide +kernel) (Nat.le_of_ble_eq_true rfl) (Nat.le_of_ble_eq_true rfl) (Nat.le_of_ble_eq_true rfl) (Nat.le_of_ble_eq_true rfl) ?_
  refine s_putRF 47 dX4_init_44 rfl rfl (fun _ _ h => by cases h; rfl) fl_X4_26 (fun _ => rfl) (fun _ => rfl) (fun _ _ _ _ => rfl) sh_113 (Nat.le_of_ble_eq_true rfl) ?_
  refine s_aload_n 48 dX4_init_47 rfl rfl ?_
  refine s_bipush 50 dX4_init_48 rfl (by decide) ?_
  refine s_newi (N := 14) 52 dX4_init_50 rfl rfl na_i (by decide +kernel) (Nat.le_of_ble_eq_true rfl) (Nat.le_of_ble_eq_true rfl) (Nat.le_of_ble_eq_true rfl) (Nat.le_of_ble_eq_true rfl) ?_
  refine s_putRF 55 dX4_init_52 rfl rfl (fun _ _ h => by cases h; rfl) fl_X4_29 (fun _ => rfl) (fun _ => rfl) (fun _ _ _ _ => rfl) sh_113 (Nat.le_of_ble_eq_true rfl) ?_
  refine s_aload_n 56 dX4_init_55 rfl rfl ?_
  refine s_iconst 57 dX4_init_56 rfl ?_
  refine s_putI 60 dX4_init_57 rfl fl_X4_32 (fun _ => x_nz (by omega)) (fun _ => rfl) (fun _ _ _ _ => rfl) sh_113 (Nat.le_of_ble_eq_true rfl) (by first | omega | exact bI_r _ | exact iI_r _) ?_
  refine s_aload_n 61 dX4_init_60 rfl rfl ?_
  refine s_iconst 62 dX4_init_61 rfl ?_
  refine s_putI 65 dX4_init_62 rfl fl_X4_36 (fun _ => rfl) (fun _ => rfl) (fun _ _ _ _ => rfl) sh_113 (Nat.le_of_ble_eq_true rfl) (by first | omega | exact bI_r _ | exact iI_r _) ?_
  refine s_aload_n 66 dX4_init_65 rfl rfl ?_
  refine s_iconst 67 dX4_init_66 rfl ?_
  refine s_putI 70 dX4_init_67 rfl fl_X4_40 (fun _ => rfl) (fun _ => rfl) (fun _ _ _ _ => rfl) sh_113 (Nat.le_of_ble_eq_true rfl) (by first | omega | exact bI_r _ | exact iI_r _) ?_
  refine s_aload_n 71 dX4_init_70 rfl rfl ?_
  refine s_iconst 72 dX4_init_71 rfl ?_
  refine s_putI 75 dX4_init_72 rfl fl_X4_43 (fun _ => rfl) (fun _ => rfl) (fun _ _ _ _ => rfl) sh_113 (Nat.le_of_ble_eq_true rfl) (by first | omega | exact bI_r _ | exact iI_r _) ?_
  refine s_aload_n 76 dX4_init_75 rfl rfl ?_
  refine s_iconst 77 dX4_init_76 rfl ?_
  refine s_putI 80 dX4_init_77 rfl fl_X4_46 (fun _ => rfl) (fun _ => rfl) (fun _ _ _ _ => rfl) sh_113 (Nat.le_of_ble_eq_true rfl) (by first | omega | exact bI_r _ | exact iI_r _) ?_
  refine s_aload_n 81 dX4_init_80 rfl rfl ?_
  refine s_aload_n 82 dX4_init_81 rfl rfl ?_
  refine s_putR 85 dX4_init_82 rfl fl_X4_49 (fun _ => rfl) (fun _ => rfl) (fun _ _ _ _ => rfl) sh_113 (Nat.le_of_ble_eq_true rfl) ?_
  refine s_vret dX4_init_85 rfl rfl ?_
  exact h
set_option maxHeartbeats 4000000 in
theorem c_X1_init_107 {E : ET} {I : MI} {L : ML} {R : MR} {Q : Option AV → MI → ML → MR → Prop}  (h : Q none (iX1 107 I) (lX1 107 L) (rX1 85 107 R)) : CT E (M_X1_init 108) (108) yX1_init [(vr (107)), (vr (85))] I L R Q := by
  refine CT_of rfl rfl (fun _ => rfl) (Nat.le_of_ble_eq_true rfl) (fun X => ?_)
  show V X _ (0, 0, 108) 0 [some (vr (107)), some (vr (85))] [] I L R _
  refine s_aload_n 1 dX1_init_0 rfl rfl ?_
  refine s_obj 4 dX1_init_1 rfl cw_X1_5 cw_oi cw_oc (Nat.le_of_ble_eq_true rfl) (Nat.le_of_ble_eq_true rfl) ?_
  refine s_aload_n 5 dX1_init_4 rfl rfl ?_
  refine s_bipush 7 dX1_init_5 rfl (by decide) ?_
  refine s_newi (N := 7) 9 dX1_init_7 rfl rfl na_i (by decide +kernel) (Nat.le_of_ble_eq_true rfl) (Nat.le_of_ble_eq_true rfl) (Nat.le_of_ble_eq_true rfl) (Nat.le_of_ble_eq_true rfl) ?_
  refine s_putRF 12 dX1_init_9 rfl rfl (fun _ _ h => by cases h; rfl) fl_X1_11 (fun _ => rfl) (fun _ => rfl) (fun _ _ _ _ => rfl) sh_107 (Nat.le_of_ble_eq_true rfl) ?_
  refine s_aload_n 13 dX1_init_12 rfl rfl ?_
  refine s_bipush 15 dX1_init_13 rfl (by decide) ?_
  refine s_newi (N := 7) 17 dX1_init_15 rfl rfl na_i (by decide +kernel) (Nat.le_of_ble_eq_true rfl) (Nat.le_of_ble_eq_true rfl) (Nat.le_of_ble_eq_true rfl) (Nat.le_of_ble_eq_true rfl) ?_
  refine s_putRF 20 dX1_init_17 rfl rfl (fun _ _ h => by cases h; rfl) fl_X1_15 (fun _ => rfl) (fun _ => rfl) (fun _ _ _ _ => rfl) sh_107 (Nat.le_of_ble_eq_true rfl) ?_
  refine s_aload_n 21 dX1_init_20 rfl rfl ?_
  refine s_iconst 22 dX1_init_21 rfl ?_
  refine s_putI 25 dX1_init_22 rfl fl_X1_18 (fun _ => rfl) (fun _ => rfl) (fun _ _ _ _ => rfl) sh_107 (Nat.le_of_ble_eq_true rfl) (by first | omega | exact bI_r _ | exact iI_r _) ?_
  refine s_aload_n 26 dX1_init_25 rfl rfl ?_
  refine s_iconst 27 dX1_init_26 rfl ?_
  refine s_putI 30 dX1_init_27 rfl fl_X1_22 (fun _ => x_nz (by omega)) (fun _ => rfl) (fun _ _ _ _ => rfl) sh_107 (Nat.le_of_ble_eq_true rfl) (by first | omega | exact bI_r _ | exact iI_r _) ?_
  refine s_aload_n 31 dX1_init_30 rfl rfl ?_
  refine s_sipush 34 dX1_init_31 rfl (by decide) ?_
  refine s_newi (N := 128) 36 dX1_init_34 rfl rfl na_i (by decide +kernel) (Nat.le_of_ble_eq_true rfl) (Nat.le_of_ble_eq_true rfl) (Nat.le_of_ble_eq_true rfl) (Nat.le_of_ble_eq_true rfl) ?_
  refine s_putRF 39 dX1_init_36 rfl rfl (fun _ _ h => by cases h; rfl) fl_X1_26 (fun _ => rfl) (fun _ => rfl) (fun _ _ _ _ => rfl) sh_107 (Nat.le_of_ble_eq_true rfl) ?_
  refine s_aload_n 40 dX1_init_39 rfl rfl ?_
  refine s_iconst 41 dX1_init_40 rfl ?_
  refine s_putI 44 dX1_init_41 rfl fl_X1_29 (fun _ => rfl) (fun _ => rfl) (fun _ _ _ _ => rfl) sh_107 (Nat.le_of_ble_eq_true rfl) (by first | omega | exact bI_r _ | exact iI_r _) ?_
  refine s_aload_n 45 dX1_init_44 rfl rfl ?_
  refine s_ldc 47 dX1_init_45 rfl _ ck_X1_32 ?_
  refine s_putI 50 dX1_init_47 rfl fl_X1_33 (fun _ => rfl) (fun _ => rfl) (fun _ _ _ _ => rfl) sh_107 (Nat.le_of_ble_eq_true rfl) (by first | omega | exact bI_r _ | exact iI_r _) ?_
  refine s_aload_n 51 dX1_init_50 rfl rfl ?_
  refine s_aload_n 52 dX1_init_51 rfl rfl ?_
  refine s_putRF 55 dX1_init_52 rfl rfl (fun _ _ h => by cases h; rfl) fl_X1_36 (fun _ => rfl) (fun _ => rfl) (fun _ _ _ _ => rfl) sh_107 (Nat.le_of_ble_eq_true rfl) ?_
  refine s_vret dX1_init_55 rfl rfl ?_
  exact h
set_option maxHeartbeats 4000000 in
theorem c_X7_init_111 {E : ET} {I : MI} {L : ML} {R : MR} {Q : Option AV → MI → ML → MR → Prop}  (h : Q none (iX7 111 I) (lX7 111 L) (rX7 3 111 R)) : CT E (M_X7_init 112) (112) yX7_init [(vr (111)), (vr (3))] I L R Q := by
  refine CT_of rfl rfl (fun _ => rfl) (Nat.le_of_ble_eq_true rfl) (fun X => ?_)
  show V X _ (0, 0, 112) 0 [some (vr (111)), some (vr (3))] [] I L R _
  refine s_aload_n 1 dX7_init_0 rfl rfl ?_
  refine s_obj 4 dX7_init_1 rfl cw_X7_3 cw_oi cw_oc (Nat.le_of_ble_eq_true rfl) (Nat.le_of_ble_eq_true rfl) ?_
  refine s_aload_n 5 dX7_init_4 rfl rfl ?_
  refine s_bipush 7 dX7_init_5 rfl (by decide) ?_
  refine s_newi (N := 120) 9 dX7_init_7 rfl rfl na_i (by decide +kernel) (Nat.le_of_ble_eq_true rfl) (Nat.le_of_ble_eq_true rfl) (Nat.le_of_ble_eq_true rfl) (Nat.le_of_ble_eq_true rfl) ?_
  refine s_putRF 12 dX7_init_9 rfl rfl (fun _ _ h => by cases h; rfl) fl_X7_9 (fun _ => rfl) (fun _ => rfl) (fun _ _ _ _ => rfl) sh_111 (Nat.le_of_ble_eq_true rfl) ?_
  refine s_aload_n 13 dX7_init_12 rfl rfl ?_
  refine s_iconst 14 dX7_init_13 rfl ?_
  refine s_putI 17 dX7_init_14 rfl fl_X7_15 (fun _ => rfl) (fun _ => rfl) (fun _ _ _ _ => rfl) sh_111 (Nat.le_of_ble_eq_true rfl) (by first | omega | exact bI_r _ | exact iI_r _) ?_
  refine s_aload_n 18 dX7_init_17 rfl rfl ?_
  refine s_bipush 20 dX7_init_18 rfl (by decide) ?_
  refine s_putI 23 dX7_init_20 rfl fl_X7_19 (fun _ => rfl) (fun _ => rfl) (fun _ _ _ _ => rfl) sh_111 (Nat.le_of_ble_eq_true rfl) (by first | omega | exact bI_r _ | exact iI_r _) ?_
  refine s_aload_n 24 dX7_init_23 rfl rfl ?_
  refine s_iconst 25 dX7_init_24 rfl ?_
  refine s_putI 28 dX7_init_25 rfl fl_X7_22 (fun _ => rfl) (fun _ => rfl) (fun _ _ _ _ => rfl) sh_111 (Nat.le_of_ble_eq_true rfl) (by first | omega | exact bI_r _ | exact iI_r _) ?_
  refine s_aload_n 29 dX7_init_28 rfl rfl ?_
  refine s_aload_n 30 dX7_init_29 rfl rfl ?_
  refine s_putR 33 dX7_init_30 rfl fl_X7_25 (fun _ => rfl) (fun _ => rfl) (fun _ _ _ _ => rfl) sh_111 (Nat.le_of_ble_eq_true rfl) ?_
  refine s_aload_n 34 dX7_init_33 rfl rfl ?_
  refine s_newo (ci := 3) 37 dX7_init_34 rfl rfl (by decide) inX4 nw_X7_29 nwi_X4 nwn_X4 tyX4_ok nok_X4 (by decide +kernel) (Nat.le_of_ble_eq_true rfl) (Nat.le_of_ble_eq_true rfl) (Nat.le_of_ble_eq_true rfl) ?_
  refine s_dup 38 dX7_init_37 rfl rfl ?_
  refine s_aload_n 39 dX7_init_38 rfl rfl ?_
  refine s_callI (M' := M_X4_init 114) (as := [_]) 42 dX7_init_39 rfl cw_X7_31 rfl rfl (Nat.le_of_ble_eq_true rfl) (Nat.le_of_ble_eq_true rfl) (Nat.le_of_ble_eq_true rfl) (Nat.le_of_ble_eq_true rfl) (Nat.le_of_ble_eq_true rfl) ?_
  refine c_X4_init_113 ?_
  refine s_putRF 45 dX7_init_42 rfl rfl (fun _ _ h => by cases h; rfl) fl_X7_34 (fun _ => rfl) (fun _ => rfl) (fun _ _ _ _ => rfl) sh_111 (Nat.le_of_ble_eq_true rfl) ?_
  refine s_vret dX7_init_45 rfl rfl ?_
  exact h
set_option maxHeartbeats 4000000 in
theorem c_X8_init_135 {E : ET} {I : MI} {L : ML} {R : MR} {Q : Option AV → MI → ML → MR → Prop}  (h : Q none (iX8 135 I) (lX8 135 L) (rX8 3 135 R)) : CT E (M_X8_init 136) (136) yX8_init [(vr (135)), (vr (3))] I L R Q := by
  refine CT_of rfl rfl (fun _ => rfl) (Nat.le_of_ble_eq_true rfl) (fun X => ?_)
  show V X _ (0, 0, 136) 0 [some (vr (135)), some (vr (3))] [] I L R _
  refine s_aload_n 1 dX8_init_0 rfl rfl ?_
  refine s_callIN (M' := M_X3_init 136) (as := []) 4 dX8_init_1 rfl cw_X8_3 rfl rfl (Nat.le_of_ble_eq_true rfl) (Nat.le_of_ble_eq_true rfl) (Nat.le_of_ble_eq_true rfl) (Nat.le_of_ble_eq_true rfl) (Nat.le_of_ble_eq_true rfl) ?_
  refine c_X3_init_135 ?_
  refine s_aload_n 5 dX8_init_4 rfl rfl ?_
  refine s_bipush 7 dX8_init_5 rfl (by decide) ?_
  refine s_newi (N := 7) 9 dX8_init_7 rfl rfl na_i (by decide +kernel) (Nat.le_of_ble_eq_true rfl) (Nat.le_of_ble_eq_true rfl) (Nat.le_of_ble_eq_true rfl) (Nat.le_of_ble_eq_true rfl) ?_
  refine s_putRF 12 dX8_init_9 rfl rfl (fun _ _ h => by cases h; rfl) fl_X8_9 (fun _ => rfl) (fun _ => rfl) (fun _ _ _ _ => rfl) sh_135 (Nat.le_of_ble_eq_true rfl) ?_
  refine s_aload_n 13 dX8_init_12 rfl rfl ?_
  refine s_aload_n 14 dX8_init_13 rfl rfl ?_
  refine s_putR 17 dX8_init_14 rfl fl_X8_15 (fun _ => rfl) (fun _ => rfl) (fun _ _ _ _ => rfl) sh_135 (Nat.le_of_ble_eq_true rfl) ?_
  refine s_vret dX8_init_17 rfl rfl ?_
  exact h
set_option maxHeartbeats 4000000 in
theorem c_X11_init_0 {E : ET} {I : MI} {L : ML} {R : MR} {Q : Option AV → MI → ML → MR → Prop}  (h : Q none (iX11 0 I) (lX11 0 L) (rX11 0 R)) : CT E (M_X11_init 1) (1) yX11_init [(vr (0))] I L R Q := by
  refine CT_of rfl rfl (fun _ => rfl) (Nat.le_of_ble_eq_true rfl) (fun X => ?_)
  show V X _ (0, 0, 1) 0 [some (vr (0))] [] I L R _
  refine s_aload_n 1 dX11_init_0 rfl rfl ?_
  refine s_obj 4 dX11_init_1 rfl cw_X11_1 cw_oi cw_oc (Nat.le_of_ble_eq_true rfl) (Nat.le_of_ble_eq_true rfl) ?_
  refine s_aload_n 5 dX11_init_4 rfl rfl ?_
  refine s_newo (ci := 8) 8 dX11_init_5 rfl rfl (by decide) inX9 nw_X11_7 nwi_X9 nwn_X9 tyX9_ok nok_X9 (by decide +kernel) (Nat.le_of_ble_eq_true rfl) (Nat.le_of_ble_eq_true rfl) (Nat.le_of_ble_eq_true rfl) ?_
  refine s_dup 9 dX11_init_8 rfl rfl ?_
  refine s_callIN (M' := M_X9_init 2) (as := []) 12 dX11_init_9 rfl cw_X11_9 rfl rfl (Nat.le_of_ble_eq_true rfl) (Nat.le_of_ble_eq_true rfl) (Nat.le_of_ble_eq_true rfl) (Nat.le_of_ble_eq_true rfl) (Nat.le_of_ble_eq_true rfl) ?_
  refine c_X9_init_1 ?_
  refine s_putRF 15 dX11_init_12 rfl rfl (fun _ _ h => by cases h; rfl) fl_X11_10 (fun _ => rfl) (fun _ => rfl) (fun _ _ _ _ => rfl) sh_0 (Nat.le_of_ble_eq_true rfl) ?_
  refine s_aload_n 16 dX11_init_15 rfl rfl ?_
  refine s_newo (ci := 4) 19 dX11_init_16 rfl rfl (by decide) inX5 nw_X11_16 nwi_X5 nwn_X5 tyX5_ok nok_X5 (by decide +kernel) (Nat.le_of_ble_eq_true rfl) (Nat.le_of_ble_eq_true rfl) (Nat.le_of_ble_eq_true rfl) ?_
  refine s_dup 20 dX11_init_19 rfl rfl ?_
  refine s_callIN (M' := M_X5_init 4) (as := []) 23 dX11_init_20 rfl cw_X11_18 rfl rfl (Nat.le_of_ble_eq_true rfl) (Nat.le_of_ble_eq_true rfl) (Nat.le_of_ble_eq_true rfl) (Nat.le_of_ble_eq_true rfl) (Nat.le_of_ble_eq_true rfl) ?_
  refine c_X5_init_3 ?_
  refine s_putR 26 dX11_init_23 rfl fl_X11_19 (fun _ => rfl) (fun _ => rfl) (fun _ _ _ _ => rfl) sh_0 (Nat.le_of_ble_eq_true rfl) ?_
  refine s_aload_n 27 dX11_init_26 rfl rfl ?_
  refine s_newo (ci := 4) 30 dX11_init_27 rfl rfl (by decide) inX5 nw_X11_16 nwi_X5 nwn_X5 tyX5_ok nok_X5 (by decide +kernel) (Nat.le_of_ble_eq_true rfl) (Nat.le_of_ble_eq_true rfl) (Nat.le_of_ble_eq_true rfl) ?_
  refine s_dup 31 dX11_init_30 rfl rfl ?_
  refine s_callIN (M' := M_X5_init 40) (as := []) 34 dX11_init_31 rfl cw_X11_18 rfl rfl (Nat.le_of_ble_eq_true rfl) (Nat.le_of_ble_eq_true rfl) (Nat.le_of_ble_eq_true rfl) (Nat.le_of_ble_eq_true rfl) (Nat.le_of_ble_eq_true rfl) ?_
  refine c_X5_init_39 ?_
  refine s_putR 37 dX11_init_34 rfl fl_X11_23 (fun _ => rfl) (fun _ => rfl) (fun _ _ _ _ => rfl) sh_0 (Nat.le_of_ble_eq_true rfl) ?_
  refine s_aload_n 38 dX11_init_37 rfl rfl ?_
  refine s_newo (ci := 5) 41 dX11_init_38 rfl rfl (by decide) inX6 nw_X11_26 nwi_X6 nwn_X6 tyX6_ok nok_X6 (by decide +kernel) (Nat.le_of_ble_eq_true rfl) (Nat.le_of_ble_eq_true rfl) (Nat.le_of_ble_eq_true rfl) ?_
  refine s_dup 42 dX11_init_41 rfl rfl ?_
  refine s_aload_n 43 dX11_init_42 rfl rfl ?_
  refine s_getR 46 dX11_init_43 rfl fl_X11_10 (fun _ _ _ _ => rfl) (by rfl) sh_0 (Nat.le_of_ble_eq_true rfl) ?_
  refine s_aload_n 47 dX11_init_46 rfl rfl ?_
  refine s_getR 50 dX11_init_47 rfl fl_X11_23 (fun _ _ _ _ => rfl) (by rfl) sh_0 (Nat.le_of_ble_eq_true rfl) ?_
  refine s_callI (M' := M_X6_init 76) (as := [_, _]) 53 dX11_init_50 rfl cw_X11_28 rfl rfl (Nat.le_of_ble_eq_true rfl) (Nat.le_of_ble_eq_true rfl) (Nat.le_of_ble_eq_true rfl) (Nat.le_of_ble_eq_true rfl) (Nat.le_of_ble_eq_true rfl) ?_
  refine c_X6_init_75 ?_
  refine s_putRF 56 dX11_init_53 rfl rfl (fun _ _ h => by cases h; rfl) fl_X11_31 (fun _ => rfl) (fun _ => rfl) (fun _ _ _ _ => rfl) sh_0 (Nat.le_of_ble_eq_true rfl) ?_
  refine s_aload_n 57 dX11_init_56 rfl rfl ?_
  refine s_newo (ci := 2) 60 dX11_init_57 rfl rfl (by decide) inX2 nw_X11_35 nwi_X2 nwn_X2 tyX2_ok nok_X2 (by decide +kernel) (Nat.le_of_ble_eq_true rfl) (Nat.le_of_ble_eq_true rfl) (Nat.le_of_ble_eq_true rfl) ?_
  refine s_dup 61 dX11_init_60 rfl rfl ?_
  refine s_callIN (M' := M_X2_init 81) (as := []) 64 dX11_init_61 rfl cw_X11_37 rfl rfl (Nat.le_of_ble_eq_true rfl) (Nat.le_of_ble_eq_true rfl) (Nat.le_of_ble_eq_true rfl) (Nat.le_of_ble_eq_true rfl) (Nat.le_of_ble_eq_true rfl) ?_
  refine c_X2_init_80 ?_
  refine s_putRF 67 dX11_init_64 rfl rfl (fun _ _ h => by cases h; rfl) fl_X11_38 (fun _ => rfl) (fun _ => rfl) (fun _ _ _ _ => rfl) sh_0 (Nat.le_of_ble_eq_true rfl) ?_
  refine s_aload_n 68 dX11_init_67 rfl rfl ?_
  refine s_newo (ci := 0) 71 dX11_init_68 rfl rfl (by decide) inX0 nw_X11_42 nwi_X0 nwn_X0 tyX0_ok nok_X0 (by decide +kernel) (Nat.le_of_ble_eq_true rfl) (Nat.le_of_ble_eq_true rfl) (Nat.le_of_ble_eq_true rfl) ?_
  refine s_dup 72 dX11_init_71 rfl rfl ?_
  refine s_callIN (M' := M_X0_init 82) (as := []) 75 dX11_init_72 rfl cw_X11_44 rfl rfl (Nat.le_of_ble_eq_true rfl) (Nat.le_of_ble_eq_true rfl) (Nat.le_of_ble_eq_true rfl) (Nat.le_of_ble_eq_true rfl) (Nat.le_of_ble_eq_true rfl) ?_
  refine c_X0_init_81 ?_
  refine s_putRF 78 dX11_init_75 rfl rfl (fun _ _ h => by cases h; rfl) fl_X11_45 (fun _ => rfl) (fun _ => rfl) (fun _ _ _ _ => rfl) sh_0 (Nat.le_of_ble_eq_true rfl) ?_
  refine s_aload_n 79 dX11_init_78 rfl rfl ?_
  refine s_newo (ci := 3) 82 dX11_init_79 rfl rfl (by decide) inX4 nw_X11_49 nwi_X4 nwn_X4 tyX4_ok nok_X4 (by decide +kernel) (Nat.le_of_ble_eq_true rfl) (Nat.le_of_ble_eq_true rfl) (Nat.le_of_ble_eq_true rfl) ?_
  refine s_dup 83 dX11_init_82 rfl rfl ?_
  refine s_aload_n 84 dX11_init_83 rfl rfl ?_
  refine s_getR 87 dX11_init_84 rfl fl_X11_19 (fun _ _ _ _ => rfl) (by rfl) sh_0 (Nat.le_of_ble_eq_true rfl) ?_
  refine s_callI (M' := M_X4_init 86) (as := [_]) 90 dX11_init_87 rfl cw_X11_51 rfl rfl (Nat.le_of_ble_eq_true rfl) (Nat.le_of_ble_eq_true rfl) (Nat.le_of_ble_eq_true rfl) (Nat.le_of_ble_eq_true rfl) (Nat.le_of_ble_eq_true rfl) ?_
  refine c_X4_init_85 ?_
  refine s_putRF 93 dX11_init_90 rfl rfl (fun _ _ h => by cases h; rfl) fl_X11_54 (fun _ => rfl) (fun _ => rfl) (fun _ _ _ _ => rfl) sh_0 (Nat.le_of_ble_eq_true rfl) ?_
  refine s_aload_n 94 dX11_init_93 rfl rfl ?_
  refine s_newo (ci := 1) 97 dX11_init_94 rfl rfl (by decide) inX1 nw_X11_58 nwi_X1 nwn_X1 tyX1_ok nok_X1 (by decide +kernel) (Nat.le_of_ble_eq_true rfl) (Nat.le_of_ble_eq_true rfl) (Nat.le_of_ble_eq_true rfl) ?_
  refine s_dup 98 dX11_init_97 rfl rfl ?_
  refine s_aload_n 99 dX11_init_98 rfl rfl ?_
  refine s_getR 102 dX11_init_99 rfl fl_X11_54 (fun _ _ _ _ => rfl) (by rfl) sh_0 (Nat.le_of_ble_eq_true rfl) ?_
  refine s_callI (M' := M_X1_init 108) (as := [_]) 105 dX11_init_102 rfl cw_X11_60 rfl rfl (Nat.le_of_ble_eq_true rfl) (Nat.le_of_ble_eq_true rfl) (Nat.le_of_ble_eq_true rfl) (Nat.le_of_ble_eq_true rfl) (Nat.le_of_ble_eq_true rfl) ?_
  refine c_X1_init_107 ?_
  refine s_putRF 108 dX11_init_105 rfl rfl (fun _ _ h => by cases h; rfl) fl_X11_63 (fun _ => rfl) (fun _ => rfl) (fun _ _ _ _ => rfl) sh_0 (Nat.le_of_ble_eq_true rfl) ?_
  refine s_aload_n 109 dX11_init_108 rfl rfl ?_
  refine s_newo (ci := 6) 112 dX11_init_109 rfl rfl (by decide) inX7 nw_X11_67 nwi_X7 nwn_X7 tyX7_ok nok_X7 (by decide +kernel) (Nat.le_of_ble_eq_true rfl) (Nat.le_of_ble_eq_true rfl) (Nat.le_of_ble_eq_true rfl) ?_
  refine s_dup 113 dX11_init_112 rfl rfl ?_
  refine s_aload_n 114 dX11_init_113 rfl rfl ?_
  refine s_getR 117 dX11_init_114 rfl fl_X11_19 (fun _ _ _ _ => rfl) (by rfl) sh_0 (Nat.le_of_ble_eq_true rfl) ?_
  refine s_callI (M' := M_X7_init 112) (as := [_]) 120 dX11_init_117 rfl cw_X11_69 rfl rfl (Nat.le_of_ble_eq_true rfl) (Nat.le_of_ble_eq_true rfl) (Nat.le_of_ble_eq_true rfl) (Nat.le_of_ble_eq_true rfl) (Nat.le_of_ble_eq_true rfl) ?_
  refine c_X7_init_111 ?_
  refine s_putRF 123 dX11_init_120 rfl rfl (fun _ _ h => by cases h; rfl) fl_X11_70 (fun _ => rfl) (fun _ => rfl) (fun _ _ _ _ => rfl) sh_0 (Nat.le_of_ble_eq_true rfl) ?_
  refine s_aload_n 124 dX11_init_123 rfl rfl ?_
  refine s_newo (ci := 7) 127 dX11_init_124 rfl rfl (by decide) inX8 nw_X11_74 nwi_X8 nwn_X8 tyX8_ok nok_X8 (by decide +kernel) (Nat.le_of_ble_eq_true rfl) (Nat.le_of_ble_eq_true rfl) (Nat.le_of_ble_eq_true rfl) ?_
  refine s_dup 128 dX11_init_127 rfl rfl ?_
  refine s_aload_n 129 dX11_init_128 rfl rfl ?_
  refine s_getR 132 dX11_init_129 rfl fl_X11_19 (fun _ _ _ _ => rfl) (by rfl) sh_0 (Nat.le_of_ble_eq_true rfl) ?_
  refine s_callI (M' := M_X8_init 136) (as := [_]) 135 dX11_init_132 rfl cw_X11_76 rfl rfl (Nat.le_of_ble_eq_true rfl) (Nat.le_of_ble_eq_true rfl) (Nat.le_of_ble_eq_true rfl) (Nat.le_of_ble_eq_true rfl) (Nat.le_of_ble_eq_true rfl) ?_
  refine c_X8_init_135 ?_
  refine s_putRF 138 dX11_init_135 rfl rfl (fun _ _ h => by cases h; rfl) fl_X11_77 (fun _ => rfl) (fun _ => rfl) (fun _ _ _ _ => rfl) sh_0 (Nat.le_of_ble_eq_true rfl) ?_
  refine s_aload_n 139 dX11_init_138 rfl rfl ?_
  refine s_iconst 140 dX11_init_139 rfl ?_
  refine s_putI 143 dX11_init_140 rfl fl_X11_81 (fun _ => rfl) (fun _ => rfl) (fun _ _ _ _ => rfl) sh_0 (Nat.le_of_ble_eq_true rfl) (by first | omega | exact bI_r _ | exact iI_r _) ?_
  refine s_aload_n 144 dX11_init_143 rfl rfl ?_
  refine s_iconst 145 dX11_init_144 rfl ?_
  refine s_putI 148 dX11_init_145 rfl fl_X11_85 (fun _ => rfl) (fun _ => rfl) (fun _ _ _ _ => rfl) sh_0 (Nat.le_of_ble_eq_true rfl) (by first | omega | exact bI_r _ | exact iI_r _) ?_
  refine s_aload_n 149 dX11_init_148 rfl rfl ?_
  refine s_iconst 150 dX11_init_149 rfl ?_
  refine s_putI 153 dX11_init_150 rfl fl_X11_88 (fun _ => rfl) (fun _ => rfl) (fun _ _ _ _ => rfl) sh_0 (Nat.le_of_ble_eq_true rfl) (by first | omega | exact bI_r _ | exact iI_r _) ?_
  refine s_vret dX11_init_153 rfl rfl ?_
  exact h
set_option maxHeartbeats 4000000 in
theorem c_X12_init_138 {E : ET} {I : MI} {L : ML} {R : MR} {Q : Option AV → MI → ML → MR → Prop}  (h : Q none (iX12 138 I) (lX12 138 L) (rX12 138 R)) : CT E (M_X12_init 139) (139) yX12_init [(vr (138))] I L R Q := by
  refine CT_of rfl rfl (fun _ => rfl) (Nat.le_of_ble_eq_true rfl) (fun X => ?_)
  show V X _ (0, 0, 139) 0 [some (vr (138))] [] I L R _
  refine s_aload_n 1 dX12_init_0 rfl rfl ?_
  refine s_obj 4 dX12_init_1 rfl cw_X12_1 cw_oi cw_oc (Nat.le_of_ble_eq_true rfl) (Nat.le_of_ble_eq_true rfl) ?_
  refine s_aload_n 5 dX12_init_4 rfl rfl ?_
  refine s_sipush 8 dX12_init_5 rfl (by decide) ?_
  refine s_newi (N := 900) 10 dX12_init_8 rfl rfl na_i (by decide +kernel) (Nat.le_of_ble_eq_true rfl) (Nat.le_of_ble_eq_true rfl) (Nat.le_of_ble_eq_true rfl) (Nat.le_of_ble_eq_true rfl) ?_
  refine s_putRF 13 dX12_init_10 rfl rfl (fun _ _ h => by cases h; rfl) fl_X12_7 (fun _ => rfl) (fun _ => rfl) (fun _ _ _ _ => rfl) sh_138 (Nat.le_of_ble_eq_true rfl) ?_
  refine s_aload_n 14 dX12_init_13 rfl rfl ?_
  refine s_iconst 15 dX12_init_14 rfl ?_
  refine s_putI 18 dX12_init_15 rfl fl_X12_13 (fun _ => rfl) (fun _ => rfl) (fun _ _ _ _ => rfl) sh_138 (Nat.le_of_ble_eq_true rfl) (by first | omega | exact bI_r _ | exact iI_r _) ?_
  refine s_aload_n 19 dX12_init_18 rfl rfl ?_
  refine s_bipush 21 dX12_init_19 rfl (by decide) ?_
  refine s_newi (N := 8) 23 dX12_init_21 rfl rfl na_i (by decide +kernel) (Nat.le_of_ble_eq_true rfl) (Nat.le_of_ble_eq_true rfl) (Nat.le_of_ble_eq_true rfl) (Nat.le_of_ble_eq_true rfl) ?_
  refine s_putRF 26 dX12_init_23 rfl rfl (fun _ _ h => by cases h; rfl) fl_X12_17 (fun _ => rfl) (fun _ => rfl) (fun _ _ _ _ => rfl) sh_138 (Nat.le_of_ble_eq_true rfl) ?_
  refine s_aload_n 27 dX12_init_26 rfl rfl ?_
  refine s_sipush 30 dX12_init_27 rfl (by decide) ?_
  refine s_newi (N := 281) 32 dX12_init_30 rfl rfl na_i (by decide +kernel) (Nat.le_of_ble_eq_true rfl) (Nat.le_of_ble_eq_true rfl) (Nat.le_of_ble_eq_true rfl) (Nat.le_of_ble_eq_true rfl) ?_
  refine s_putRF 35 dX12_init_32 rfl rfl (fun _ _ h => by cases h; rfl) fl_X12_20 (fun _ => rfl) (fun _ => rfl) (fun _ _ _ _ => rfl) sh_138 (Nat.le_of_ble_eq_true rfl) ?_
  refine s_aload_n 36 dX12_init_35 rfl rfl ?_
  refine s_sipush 39 dX12_init_36 rfl (by decide) ?_
  refine s_newi (N := 281) 41 dX12_init_39 rfl rfl na_i (by decide +kernel) (Nat.le_of_ble_eq_true rfl) (Nat.le_of_ble_eq_true rfl) (Nat.le_of_ble_eq_true rfl) (Nat.le_of_ble_eq_true rfl) ?_
  refine s_putRF 44 dX12_init_41 rfl rfl (fun _ _ h => by cases h; rfl) fl_X12_23 (fun _ => rfl) (fun _ => rfl) (fun _ _ _ _ => rfl) sh_138 (Nat.le_of_ble_eq_true rfl) ?_
  refine s_aload_n 45 dX12_init_44 rfl rfl ?_
  refine s_bipush 47 dX12_init_45 rfl (by decide) ?_
  refine s_newi (N := 13) 49 dX12_init_47 rfl rfl na_i (by decide +kernel) (Nat.le_of_ble_eq_true rfl) (Nat.le_of_ble_eq_true rfl) (Nat.le_of_ble_eq_true rfl) (Nat.le_of_ble_eq_true rfl) ?_
  refine s_putRF 52 dX12_init_49 rfl rfl (fun _ _ h => by cases h; rfl) fl_X12_26 (fun _ => rfl) (fun _ => rfl) (fun _ _ _ _ => rfl) sh_138 (Nat.le_of_ble_eq_true rfl) ?_
  refine s_aload_n 53 dX12_init_52 rfl rfl ?_
  refine s_bipush 55 dX12_init_53 rfl (by decide) ?_
  refine s_newi (N := 13) 57 dX12_init_55 rfl rfl na_i (by decide +kernel) (Nat.le_of_ble_eq_true rfl) (Nat.le_of_ble_eq_true rfl) (Nat.le_of_ble_eq_true rfl) (Nat.le_of_ble_eq_true rfl) ?_
  refine s_putRF 60 dX12_init_57 rfl rfl (fun _ _ h => by cases h; rfl) fl_X12_29 (fun _ => rfl) (fun _ => rfl) (fun _ _ _ _ => rfl) sh_138 (Nat.le_of_ble_eq_true rfl) ?_
  refine s_aload_n 61 dX12_init_60 rfl rfl ?_
  refine s_sipush 64 dX12_init_61 rfl (by decide) ?_
  refine s_newi (N := 156) 66 dX12_init_64 rfl rfl na_i (by decide +kernel) (Nat.le_of_ble_eq_true rfl) (Nat.le_of_ble_eq_true rfl) (Nat.le_of_ble_eq_true rfl) (Nat.le_of_ble_eq_true rfl) ?_
  refine s_putRF 69 dX12_init_66 rfl rfl (fun _ _ h => by cases h; rfl) fl_X12_32 (fun _ => rfl) (fun _ => rfl) (fun _ _ _ _ => rfl) sh_138 (Nat.le_of_ble_eq_true rfl) ?_
  refine s_aload_n 70 dX12_init_69 rfl rfl ?_
  refine s_sipush 73 dX12_init_70 rfl (by decide) ?_
  refine s_newi (N := 156) 75 dX12_init_73 rfl rfl na_i (by decide +kernel) (Nat.le_of_ble_eq_true rfl) (Nat.le_of_ble_eq_true rfl) (Nat.le_of_ble_eq_true rfl) (Nat.le_of_ble_eq_true rfl) ?_
  refine s_putRF 78 dX12_init_75 rfl rfl (fun _ _ h => by cases h; rfl) fl_X12_35 (fun _ => rfl) (fun _ => rfl) (fun _ _ _ _ => rfl) sh_138 (Nat.le_of_ble_eq_true rfl) ?_
  refine s_aload_n 79 dX12_init_78 rfl rfl ?_
  refine s_bipush 81 dX12_init_79 rfl (by decide) ?_
  refine s_newi (N := 39) 83 dX12_init_81 rfl rfl na_i (by decide +kernel) (Nat.le_of_ble_eq_true rfl) (Nat.le_of_ble_eq_true rfl) (Nat.le_of_ble_eq_true rfl) (Nat.le_of_ble_eq_true rfl) ?_
  refine s_putRF 86 dX12_init_83 rfl rfl (fun _ _ h => by cases h; rfl) fl_X12_38 (fun _ => rfl) (fun _ => rfl) (fun _ _ _ _ => rfl) sh_138 (Nat.le_of_ble_eq_true rfl) ?_
  refine s_aload_n 87 dX12_init_86 rfl rfl ?_
  refine s_iconst 88 dX12_init_87 rfl ?_
  refine s_newi (N := 5) 90 dX12_init_88 rfl rfl na_i (by decide +kernel) (Nat.le_of_ble_eq_true rfl) (Nat.le_of_ble_eq_true rfl) (Nat.le_of_ble_eq_true rfl) (Nat.le_of_ble_eq_true rfl) ?_
  refine s_putRF 93 dX12_init_90 rfl rfl (fun _ _ h => by cases h; rfl) fl_X12_41 (fun _ => rfl) (fun _ => rfl) (fun _ _ _ _ => rfl) sh_138 (Nat.le_of_ble_eq_true rfl) ?_
  refine s_aload_n 94 dX12_init_93 rfl rfl ?_
  refine s_iconst 95 dX12_init_94 rfl ?_
  refine s_newi (N := 5) 97 dX12_init_95 rfl rfl na_i (by decide +kernel) (Nat.le_of_ble_eq_true rfl) (Nat.le_of_ble_eq_true rfl) (Nat.le_of_ble_eq_true rfl) (Nat.le_of_ble_eq_true rfl) ?_
  refine s_putRF 100 dX12_init_97 rfl rfl (fun _ _ h => by cases h; rfl) fl_X12_44 (fun _ => rfl) (fun _ => rfl) (fun _ _ _ _ => rfl) sh_138 (Nat.le_of_ble_eq_true rfl) ?_
  refine s_aload_n 101 dX12_init_100 rfl rfl ?_
  refine s_bipush 103 dX12_init_101 rfl (by decide) ?_
  refine s_newi (N := 14) 105 dX12_init_103 rfl rfl na_i (by decide +kernel) (Nat.le_of_ble_eq_true rfl) (Nat.le_of_ble_eq_true rfl) (Nat.le_of_ble_eq_true rfl) (Nat.le_of_ble_eq_true rfl) ?_
  refine s_putRF 108 dX12_init_105 rfl rfl (fun _ _ h => by cases h; rfl) fl_X12_47 (fun _ => rfl) (fun _ => rfl) (fun _ _ _ _ => rfl) sh_138 (Nat.le_of_ble_eq_true rfl) ?_
  refine s_aload_n 109 dX12_init_108 rfl rfl ?_
  refine s_bipush 111 dX12_init_109 rfl (by decide) ?_
  refine s_newi (N := 14) 113 dX12_init_111 rfl rfl na_i (by decide +kernel) (Nat.le_of_ble_eq_true rfl) (Nat.le_of_ble_eq_true rfl) (Nat.le_of_ble_eq_true rfl) (Nat.le_of_ble_eq_true rfl) ?_
  refine s_putRF 116 dX12_init_113 rfl rfl (fun _ _ h => by cases h; rfl) fl_X12_50 (fun _ => rfl) (fun _ => rfl) (fun _ _ _ _ => rfl) sh_138 (Nat.le_of_ble_eq_true rfl) ?_
  refine s_aload_n 117 dX12_init_116 rfl rfl ?_
  refine s_bipush 119 dX12_init_117 rfl (by decide) ?_
  refine s_newi (N := 14) 121 dX12_init_119 rfl rfl na_i (by decide +kernel) (Nat.le_of_ble_eq_true rfl) (Nat.le_of_ble_eq_true rfl) (Nat.le_of_ble_eq_true rfl) (Nat.le_of_ble_eq_true rfl) ?_
  refine s_putRF 124 dX12_init_121 rfl rfl (fun _ _ h => by cases h; rfl) fl_X12_53 (fun _ => rfl) (fun _ => rfl) (fun _ _ _ _ => rfl) sh_138 (Nat.le_of_ble_eq_true rfl) ?_
  refine s_aload_n 125 dX12_init_124 rfl rfl ?_
  refine s_iconst 126 dX12_init_125 rfl ?_
  refine s_putI 129 dX12_init_126 rfl fl_X12_56 (fun _ => rfl) (fun _ => rfl) (fun _ _ _ _ => rfl) sh_138 (Nat.le_of_ble_eq_true rfl) (by first | omega | exact bI_r _ | exact iI_r _) ?_
  refine s_aload_n 130 dX12_init_129 rfl rfl ?_
  refine s_sipush 133 dX12_init_130 rfl (by decide) ?_
  refine s_newz (N := 128) 135 dX12_init_133 rfl rfl na_z (by decide +kernel) (Nat.le_of_ble_eq_true rfl) (Nat.le_of_ble_eq_true rfl) (Nat.le_of_ble_eq_true rfl) (Nat.le_of_ble_eq_true rfl) ?_
  refine s_putRF 138 dX12_init_135 rfl rfl (fun _ _ h => by cases h; rfl) fl_X12_59 (fun _ => rfl) (fun _ => rfl) (fun _ _ _ _ => rfl) sh_138 (Nat.le_of_ble_eq_true rfl) ?_
  refine s_aload_n 139 dX12_init_138 rfl rfl ?_
  refine s_sipush 142 dX12_init_139 rfl (by decide) ?_
  refine s_newi (N := 128) 144 dX12_init_142 rfl rfl na_i (by decide +kernel) (Nat.le_of_ble_eq_true rfl) (Nat.le_of_ble_eq_true rfl) (Nat.le_of_ble_eq_true rfl) (Nat.le_of_ble_eq_true rfl) ?_
  refine s_putRF 147 dX12_init_144 rfl rfl (fun _ _ h => by cases h; rfl) fl_X12_63 (fun _ => rfl) (fun _ => rfl) (fun _ _ _ _ => rfl) sh_138 (Nat.le_of_ble_eq_true rfl) ?_
  refine s_aload_n 148 dX12_init_147 rfl rfl ?_
  refine s_bipush 150 dX12_init_148 rfl (by decide) ?_
  refine s_newi (N := 7) 152 dX12_init_150 rfl rfl na_i (by decide +kernel) (Nat.le_of_ble_eq_true rfl) (Nat.le_of_ble_eq_true rfl) (Nat.le_of_ble_eq_true rfl) (Nat.le_of_ble_eq_true rfl) ?_
  refine s_putRF 155 dX12_init_152 rfl rfl (fun _ _ h => by cases h; rfl) fl_X12_66 (fun _ => rfl) (fun _ => rfl) (fun _ _ _ _ => rfl) sh_138 (Nat.le_of_ble_eq_true rfl) ?_
  refine s_aload_n 156 dX12_init_155 rfl rfl ?_
  refine s_bipush 158 dX12_init_156 rfl (by decide) ?_
  refine s_newi (N := 7) 160 dX12_init_158 rfl rfl na_i (by decide +kernel) (Nat.le_of_ble_eq_true rfl) (Nat.le_of_ble_eq_true rfl) (Nat.le_of_ble_eq_true rfl) (Nat.le_of_ble_eq_true rfl) ?_
  refine s_putRF 163 dX12_init_160 rfl rfl (fun _ _ h => by cases h; rfl) fl_X12_69 (fun _ => rfl) (fun _ => rfl) (fun _ _ _ _ => rfl) sh_138 (Nat.le_of_ble_eq_true rfl) ?_
  refine s_aload_n 164 dX12_init_163 rfl rfl ?_
  refine s_iconst 165 dX12_init_164 rfl ?_
  refine s_newi (N := 5) 167 dX12_init_165 rfl rfl na_i (by decide +kernel) (Nat.le_of_ble_eq_true rfl) (Nat.le_of_ble_eq_true rfl) (Nat.le_of_ble_eq_true rfl) (Nat.le_of_ble_eq_true rfl) ?_
  refine s_putRF 170 dX12_init_167 rfl rfl (fun _ _ h => by cases h; rfl) fl_X12_72 (fun _ => rfl) (fun _ => rfl) (fun _ _ _ _ => rfl) sh_138 (Nat.le_of_ble_eq_true rfl) ?_
  refine s_aload_n 171 dX12_init_170 rfl rfl ?_
  refine s_sipush 174 dX12_init_171 rfl (by decide) ?_
  refine s_newi (N := 3125) 176 dX12_init_174 rfl rfl na_i (by decide +kernel) (Nat.le_of_ble_eq_true rfl) (Nat.le_of_ble_eq_true rfl) (Nat.le_of_ble_eq_true rfl) (Nat.le_of_ble_eq_true rfl) ?_
  refine s_putRF 179 dX12_init_176 rfl rfl (fun _ _ h => by cases h; rfl) fl_X12_75 (fun _ => rfl) (fun _ => rfl) (fun _ _ _ _ => rfl) sh_138 (Nat.le_of_ble_eq_true rfl) ?_
  refine s_aload_n 180 dX12_init_179 rfl rfl ?_
  refine s_bipush 182 dX12_init_180 rfl (by decide) ?_
  refine s_newi (N := 120) 184 dX12_init_182 rfl rfl na_i (by decide +kernel) (Nat.le_of_ble_eq_true rfl) (Nat.le_of_ble_eq_true rfl) (Nat.le_of_ble_eq_true rfl) (Nat.le_of_ble_eq_true rfl) ?_
  refine s_putRF 187 dX12_init_184 rfl rfl (fun _ _ h => by cases h; rfl) fl_X12_78 (fun _ => rfl) (fun _ => rfl) (fun _ _ _ _ => rfl) sh_138 (Nat.le_of_ble_eq_true rfl) ?_
  refine s_vret dX12_init_187 rfl rfl ?_
  exact h
