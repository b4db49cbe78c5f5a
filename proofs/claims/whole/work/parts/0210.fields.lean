section FROWS
variable {Z : Zt} {E : Ec} {cc : ByteArray} {nL : Nat} {ret : Option FieldType} {h : Nat} {β : Type} {fin : β → Option Value × Mi × Ml} {pc : Nat} {lv : List (Nat × Value)} {rest : List Value} {M M' : Mi} {N N' : Ml} {t : Option β}
theorem gf_X0_9 {j : Nat} (C : Ok 1 Z E cc nL RX0 ret h) (hj : j < 4) (hd : decode cc pc = .ok (.getfield 9, 3)) (kk : GT Z E nL fin (pc + 3) lv (.ref (zA Z j 1) :: rest) M N t) : GT Z E nL fin pc lv (.ref (zA Z j 0) :: rest) M N t :=
  r_get C us_X0 (ci := 0) rfl 4 (by decide) wd_117 (lyI C.z hj _ _ 0) rfl hd kk
theorem gf_X0_15 {j : Nat} (C : Ok 1 Z E cc nL RX0 ret h) (hj : j < 4) (hd : decode cc pc = .ok (.getfield 15, 3)) (kk : GT Z E nL fin (pc + 3) lv (.ref (zA Z j 2) :: rest) M N t) : GT Z E nL fin pc lv (.ref (zA Z j 0) :: rest) M N t :=
  r_get C us_X0 (ci := 0) rfl 5 (by decide) wd_120 (lyI C.z hj _ _ 0) rfl hd kk
theorem gf_X0_18 {j : Nat} (C : Ok 1 Z E cc nL RX0 ret h) (hj : j < 4) (hd : decode cc pc = .ok (.getfield 18, 3)) (kk : GT Z E nL fin (pc + 3) lv (.ref (zA Z j 3) :: rest) M N t) : GT Z E nL fin pc lv (.ref (zA Z j 0) :: rest) M N t :=
  r_get C us_X0 (ci := 0) rfl 6 (by decide) wd_122 (lyI C.z hj _ _ 0) rfl hd kk
theorem gf_X0_21 {j : Nat} (C : Ok 1 Z E cc nL RX0 ret h) (hj : j < 4) (hd : decode cc pc = .ok (.getfield 21, 3)) (kk : GT Z E nL fin (pc + 3) lv (.ref (zA Z j 4) :: rest) M N t) : GT Z E nL fin pc lv (.ref (zA Z j 0) :: rest) M N t :=
  r_get C us_X0 (ci := 0) rfl 7 (by decide) wd_124 (lyI C.z hj _ _ 0) rfl hd kk
theorem gf_X0_24 {j : Nat} (C : Ok 1 Z E cc nL RX0 ret h) (hj : j < 4) (hd : decode cc pc = .ok (.getfield 24, 3)) (kk : GT Z E nL fin (pc + 3) lv (.ref (zA Z j 5) :: rest) M N t) : GT Z E nL fin pc lv (.ref (zA Z j 0) :: rest) M N t :=
  r_get C us_X0 (ci := 0) rfl 8 (by decide) wd_126 (lyI C.z hj _ _ 0) rfl hd kk
theorem gf_X0_28 {j : Nat} {v : Int32} (C : Ok 1 Z E cc nL RX0 ret h) (hj : j < 4) (hd : decode cc pc = .ok (.getfield 28, 3)) (hv : M j 2 = v) (kk : GT Z E nL fin (pc + 3) lv (.int v :: rest) M N t) : GT Z E nL fin pc lv (.ref (zA Z j 0) :: rest) M N t := by
  subst hv; exact r_get C us_X0 (ci := 0) rfl 0 (by decide) wd_107 (lyI C.z hj _ _ 0) rfl hd kk
theorem pf_X0_28 {j : Nat} {v : Int32} (C : Ok 1 Z E cc nL RX0 ret h) (hj : j < 4) (hd : decode cc pc = .ok (.putfield 28, 3)) (hM : wM M j 2 v = M') (kk : GT Z E nL fin (pc + 3) lv rest M' N t) : GT Z E nL fin pc lv (.int v :: .ref (zA Z j 0) :: rest) M N t :=
  r_put C us_X0 tyX0 tyX0_ok nmX0 (ci := 0) rfl 0 (by decide) wd_107 rfl (ty := .int) rfl rfl rfl (Nat.le_of_ble_eq_true rfl) (lyI C.z hj _ _ 0) (lyI C.z hj _ _ 0) (fun p e hp q => by rw [lyI C.z hj] at q ⊢; rw [← q]; exact (hoO (by omega) p hp).symm) hM hd kk
theorem gf_X0_32 {j : Nat} {v : Int32} (C : Ok 1 Z E cc nL RX0 ret h) (hj : j < 4) (hd : decode cc pc = .ok (.getfield 32, 3)) (hv : M j 6 = v) (kk : GT Z E nL fin (pc + 3) lv (.int v :: rest) M N t) : GT Z E nL fin pc lv (.ref (zA Z j 0) :: rest) M N t := by
  subst hv; exact r_get C us_X0 (ci := 0) rfl 1 (by decide) wd_110 (lyI C.z hj _ _ 0) rfl hd kk
theorem pf_X0_32 {j : Nat} {v : Int32} (C : Ok 1 Z E cc nL RX0 ret h) (hj : j < 4) (hd : decode cc pc = .ok (.putfield 32, 3)) (hM : wM M j 6 v = M') (kk : GT Z E nL fin (pc + 3) lv rest M' N t) : GT Z E nL fin pc lv (.int v :: .ref (zA Z j 0) :: rest) M N t :=
  r_put C us_X0 tyX0 tyX0_ok nmX0 (ci := 0) rfl 1 (by decide) wd_110 rfl (ty := .int) rfl rfl rfl (Nat.le_of_ble_eq_true rfl) (lyI C.z hj _ _ 0) (lyI C.z hj _ _ 0) (fun p e hp q => by rw [lyI C.z hj] at q ⊢; rw [← q]; exact (hoO (by omega) p hp).symm) hM hd kk
theorem gf_X0_35 {j : Nat} {v : Int32} (C : Ok 1 Z E cc nL RX0 ret h) (hj : j < 4) (hd : decode cc pc = .ok (.getfield 35, 3)) (hv : M j 0 = v) (kk : GT Z E nL fin (pc + 3) lv (.int v :: rest) M N t) : GT Z E nL fin pc lv (.ref (zA Z j 0) :: rest) M N t := by
  subst hv; exact r_get C us_X0 (ci := 0) rfl 2 (by decide) wd_113 (lyI C.z hj _ _ 0) rfl hd kk
theorem pf_X0_35 {j : Nat} {v : Int32} (C : Ok 1 Z E cc nL RX0 ret h) (hj : j < 4) (hd : decode cc pc = .ok (.putfield 35, 3)) (hM : wM M j 0 v = M') (kk : GT Z E nL fin (pc + 3) lv rest M' N t) : GT Z E nL fin pc lv (.int v :: .ref (zA Z j 0) :: rest) M N t :=
  r_put C us_X0 tyX0 tyX0_ok nmX0 (ci := 0) rfl 2 (by decide) wd_113 rfl (ty := .int) rfl rfl rfl (Nat.le_of_ble_eq_true rfl) (lyI C.z hj _ _ 0) (lyI C.z hj _ _ 0) (fun p e hp q => by rw [lyI C.z hj] at q ⊢; rw [← q]; exact (hoO (by omega) p hp).symm) hM hd kk
theorem gf_X0_38 {j : Nat} {v : Int32} (C : Ok 1 Z E cc nL RX0 ret h) (hj : j < 4) (hd : decode cc pc = .ok (.getfield 38, 3)) (hv : M j 1 = v) (kk : GT Z E nL fin (pc + 3) lv (.int v :: rest) M N t) : GT Z E nL fin pc lv (.ref (zA Z j 0) :: rest) M N t := by
  subst hv; exact r_get C us_X0 (ci := 0) rfl 3 (by decide) wd_115 (lyI C.z hj _ _ 0) rfl hd kk
theorem pf_X0_38 {j : Nat} {v : Int32} (C : Ok 1 Z E cc nL RX0 ret h) (hj : j < 4) (hd : decode cc pc = .ok (.putfield 38, 3)) (hM : wM M j 1 v = M') (kk : GT Z E nL fin (pc + 3) lv rest M' N t) : GT Z E nL fin pc lv (.int v :: .ref (zA Z j 0) :: rest) M N t :=
  r_put C us_X0 tyX0 tyX0_ok nmX0 (ci := 0) rfl 3 (by decide) wd_115 rfl (ty := .int) rfl rfl rfl (Nat.le_of_ble_eq_true rfl) (lyI C.z hj _ _ 0) (lyI C.z hj _ _ 0) (fun p e hp q => by rw [lyI C.z hj] at q ⊢; rw [← q]; exact (hoO (by omega) p hp).symm) hM hd kk
theorem gf_X0_96 {g : Nat} {v : Int32} (C : Ok 1 Z E cc nL RX0 ret h) (hg : 20 ≤ g ∧ g < 24) (hd : decode cc pc = .ok (.getfield 96, 3)) (hv : M g 1 = v) (kk : GT Z E nL fin (pc + 3) lv (.int v :: rest) M N t) : GT Z E nL fin pc lv (.ref (zA Z g 0) :: rest) M N t := by
  subst hv; exact r_getN C us_X2 (ci := 2) rfl 2 (by decide) 16 rfl (lyS C.z hg _ _ 0) rfl hd kk
theorem gf_X0_101 {g : Nat} (C : Ok 1 Z E cc nL RX0 ret h) (hg : 20 ≤ g ∧ g < 24) (hd : decode cc pc = .ok (.getfield 101, 3)) (kk : GT Z E nL fin (pc + 3) lv (.ref (zA Z g 1) :: rest) M N t) : GT Z E nL fin pc lv (.ref (zA Z g 0) :: rest) M N t :=
  r_getN C us_X2 (ci := 2) rfl 0 (by decide) 15 rfl (lyS C.z hg _ _ 0) rfl hd kk
theorem gf_X1_12 (C : Ok 1 Z E cc nL RX1 ret h) (hd : decode cc pc = .ok (.getfield 12, 3)) (kk : GT Z E nL fin (pc + 3) lv (.ref (zA Z 3 0) :: rest) M N t) : GT Z E nL fin pc lv (.ref (zA Z 4 0) :: rest) M N t :=
  r_get C us_X1 (ci := 1) rfl 0 (by decide) wd_157 (lyO C.z (g := 4) (by decide) (by decide) _ _ 0) rfl hd kk
theorem gf_X1_22 {v : Int32} (C : Ok 1 Z E cc nL RX1 ret h) (hd : decode cc pc = .ok (.getfield 22, 3)) (hv : M 4 0 = v) (kk : GT Z E nL fin (pc + 3) lv (.int v :: rest) M N t) : GT Z E nL fin pc lv (.ref (zA Z 4 0) :: rest) M N t := by
  subst hv; exact r_get C us_X1 (ci := 1) rfl 1 (by decide) wd_159 (lyO C.z (g := 4) (by decide) (by decide) _ _ 0) rfl hd kk
theorem pf_X1_22 {v : Int32} (C : Ok 1 Z E cc nL RX1 ret h) (hd : decode cc pc = .ok (.putfield 22, 3)) (hM : wM M 4 0 v = M') (kk : GT Z E nL fin (pc + 3) lv rest M' N t) : GT Z E nL fin pc lv (.int v :: .ref (zA Z 4 0) :: rest) M N t :=
  r_put C us_X1 tyX1 tyX1_ok nmX1 (ci := 1) rfl 1 (by decide) wd_159 rfl (ty := .int) rfl rfl rfl (Nat.le_of_ble_eq_true rfl) (lyO C.z (g := 4) (by decide) (by decide) _ _ 0) (lyO C.z (g := 4) (by decide) (by decide) _ _ 0) (fun p e hp q => by
    rw [lyO C.z (by decide) (by decide)] at q ⊢; rw [← q]
    match p, hp with
    | 0, hp => exact absurd rfl hp
    | n + 1, _ => rfl) hM hd kk
theorem gf_X1_26 {v : Int32} (C : Ok 1 Z E cc nL RX1 ret h) (hd : decode cc pc = .ok (.getfield 26, 3)) (hv : M 4 2 = v) (kk : GT Z E nL fin (pc + 3) lv (.int v :: rest) M N t) : GT Z E nL fin pc lv (.ref (zA Z 4 0) :: rest) M N t := by
  subst hv; exact r_get C us_X1 (ci := 1) rfl 3 (by decide) wd_162 (lyO C.z (g := 4) (by decide) (by decide) _ _ 0) rfl hd kk
theorem pf_X1_26 {v : Int32} (C : Ok 1 Z E cc nL RX1 ret h) (hd : decode cc pc = .ok (.putfield 26, 3)) (hz : v = 0 ∨ v = 1) (hM : wM M 4 2 v = M') (kk : GT Z E nL fin (pc + 3) lv rest M' N t) : GT Z E nL fin pc lv (.int v :: .ref (zA Z 4 0) :: rest) M N t :=
  r_put C us_X1 tyX1 tyX1_ok nmX1 (ci := 1) rfl 3 (by decide) wd_162 rfl (ty := .boolean) rfl (by rcases hz with rfl | rfl <;> rfl) (by rcases hz with rfl | rfl <;> rfl) (Nat.le_of_ble_eq_true rfl) (lyO C.z (g := 4) (by decide) (by decide) _ _ 0) (lyO C.z (g := 4) (by decide) (by decide) _ _ 0) (fun p e hp q => by
    rw [lyO C.z (by decide) (by decide)] at q ⊢; rw [← q]
    match p, hp with
    | 0, hp => exact absurd rfl hp
    | n + 1, _ => rfl) hM hd kk
theorem gf_X1_34 {v : Int32} (C : Ok 1 Z E cc nL RX1 ret h) (hd : decode cc pc = .ok (.getfield 34, 3)) (hv : M 4 1 = v) (kk : GT Z E nL fin (pc + 3) lv (.int v :: rest) M N t) : GT Z E nL fin pc lv (.ref (zA Z 4 0) :: rest) M N t := by
  subst hv; exact r_get C us_X1 (ci := 1) rfl 2 (by decide) wd_160 (lyO C.z (g := 4) (by decide) (by decide) _ _ 0) rfl hd kk
theorem pf_X1_34 {v : Int32} (C : Ok 1 Z E cc nL RX1 ret h) (hd : decode cc pc = .ok (.putfield 34, 3)) (hM : wM M 4 1 v = M') (kk : GT Z E nL fin (pc + 3) lv rest M' N t) : GT Z E nL fin pc lv (.int v :: .ref (zA Z 4 0) :: rest) M N t :=
  r_put C us_X1 tyX1 tyX1_ok nmX1 (ci := 1) rfl 2 (by decide) wd_160 rfl (ty := .int) rfl rfl rfl (Nat.le_of_ble_eq_true rfl) (lyO C.z (g := 4) (by decide) (by decide) _ _ 0) (lyO C.z (g := 4) (by decide) (by decide) _ _ 0) (fun p e hp q => by
    rw [lyO C.z (by decide) (by decide)] at q ⊢; rw [← q]
    match p, hp with
    | 0, hp => exact absurd rfl hp
    | n + 1, _ => rfl) hM hd kk
theorem gf_X1_55 {j : Nat} {v : Int32} (C : Ok 1 Z E cc nL RX1 ret h) (hj : j < 4) (hd : decode cc pc = .ok (.getfield 55, 3)) (hv : M j 2 = v) (kk : GT Z E nL fin (pc + 3) lv (.int v :: rest) M N t) : GT Z E nL fin pc lv (.ref (zA Z j 0) :: rest) M N t := by
  subst hv; exact r_getN C us_X0 (ci := 0) rfl 0 (by decide) 17 rfl (lyI C.z hj _ _ 0) rfl hd kk
theorem gf_X2_9 {g : Nat} (C : Ok 1 Z E cc nL RX2 ret h) (hg : 20 ≤ g ∧ g < 24) (hd : decode cc pc = .ok (.getfield 9, 3)) (kk : GT Z E nL fin (pc + 3) lv (.ref (zA Z g 1) :: rest) M N t) : GT Z E nL fin pc lv (.ref (zA Z g 0) :: rest) M N t :=
  r_get C us_X2 (ci := 2) rfl 0 (by decide) wd_208 (lyS C.z hg _ _ 0) rfl hd kk
theorem gf_X2_15 {g : Nat} {v : Int32} (C : Ok 1 Z E cc nL RX2 ret h) (hg : 20 ≤ g ∧ g < 24) (hd : decode cc pc = .ok (.getfield 15, 3)) (hv : M g 0 = v) (kk : GT Z E nL fin (pc + 3) lv (.int v :: rest) M N t) : GT Z E nL fin pc lv (.ref (zA Z g 0) :: rest) M N t := by
  subst hv; exact r_get C us_X2 (ci := 2) rfl 1 (by decide) wd_211 (lyS C.z hg _ _ 0) rfl hd kk
theorem pf_X2_15 {g : Nat} {v : Int32} (C : Ok 1 Z E cc nL RX2 ret h) (hg : 20 ≤ g ∧ g < 24) (hd : decode cc pc = .ok (.putfield 15, 3)) (hM : wM M g 0 v = M') (kk : GT Z E nL fin (pc + 3) lv rest M' N t) : GT Z E nL fin pc lv (.int v :: .ref (zA Z g 0) :: rest) M N t :=
  r_put C us_X2 tyX2 tyX2_ok nmX2 (ci := 2) rfl 1 (by decide) wd_211 rfl (ty := .int) rfl rfl rfl (Nat.le_of_ble_eq_true rfl) (lyS C.z hg _ _ 0) (lyS C.z hg _ _ 0) (fun p e hp q => by
    rw [lyS C.z hg] at q ⊢; rw [← q]
    match p, hp with
    | 0, hp => exact absurd rfl hp
    | 1, _ => rfl
    | n + 2, _ => rfl) hM hd kk
theorem gf_X2_19 {g : Nat} {v : Int32} (C : Ok 1 Z E cc nL RX2 ret h) (hg : 20 ≤ g ∧ g < 24) (hd : decode cc pc = .ok (.getfield 19, 3)) (hv : M g 1 = v) (kk : GT Z E nL fin (pc + 3) lv (.int v :: rest) M N t) : GT Z E nL fin pc lv (.ref (zA Z g 0) :: rest) M N t := by
  subst hv; exact r_get C us_X2 (ci := 2) rfl 2 (by decide) wd_213 (lyS C.z hg _ _ 0) rfl hd kk
theorem pf_X2_19 {g : Nat} {v : Int32} (C : Ok 1 Z E cc nL RX2 ret h) (hg : 20 ≤ g ∧ g < 24) (hd : decode cc pc = .ok (.putfield 19, 3)) (hM : wM M g 1 v = M') (kk : GT Z E nL fin (pc + 3) lv rest M' N t) : GT Z E nL fin pc lv (.int v :: .ref (zA Z g 0) :: rest) M N t :=
  r_put C us_X2 tyX2 tyX2_ok nmX2 (ci := 2) rfl 2 (by decide) wd_213 rfl (ty := .int) rfl rfl rfl (Nat.le_of_ble_eq_true rfl) (lyS C.z hg _ _ 0) (lyS C.z hg _ _ 0) (fun p e hp q => by
    rw [lyS C.z hg] at q ⊢; rw [← q]
    match p, hp with
    | 0, hp => exact absurd rfl hp
    | 1, _ => rfl
    | n + 2, _ => rfl) hM hd kk
theorem gf_X3_9 (C : Ok 1 Z E cc nL RX3 ret h) (hd : decode cc pc = .ok (.getfield 9, 3)) (kk : GT Z E nL fin (pc + 3) lv (.ref (zA Z 5 1) :: rest) M N t) : GT Z E nL fin pc lv (.ref (zA Z 5 0) :: rest) M N t :=
  r_get C us_X3 (ci := 3) rfl 0 (by decide) wd_178 (lyO C.z (g := 5) (by decide) (by decide) _ _ 0) rfl hd kk
theorem gf_X3_15 {v : Int32} (C : Ok 1 Z E cc nL RX3 ret h) (hd : decode cc pc = .ok (.getfield 15, 3)) (hv : M 5 0 = v) (kk : GT Z E nL fin (pc + 3) lv (.int v :: rest) M N t) : GT Z E nL fin pc lv (.ref (zA Z 5 0) :: rest) M N t := by
  subst hv; exact r_get C us_X3 (ci := 3) rfl 1 (by decide) wd_179 (lyO C.z (g := 5) (by decide) (by decide) _ _ 0) rfl hd kk
theorem pf_X3_15 {v : Int32} (C : Ok 1 Z E cc nL RX3 ret h) (hd : decode cc pc = .ok (.putfield 15, 3)) (hM : wM M 5 0 v = M') (kk : GT Z E nL fin (pc + 3) lv rest M' N t) : GT Z E nL fin pc lv (.int v :: .ref (zA Z 5 0) :: rest) M N t :=
  r_put C us_X3 tyX3 tyX3_ok nmX3 (ci := 3) rfl 1 (by decide) wd_179 rfl (ty := .int) rfl rfl rfl (Nat.le_of_ble_eq_true rfl) (lyO C.z (g := 5) (by decide) (by decide) _ _ 0) (lyO C.z (g := 5) (by decide) (by decide) _ _ 0) (fun p e hp q => by
    rw [lyO C.z (by decide) (by decide)] at q ⊢; rw [← q]
    match p, hp with
    | 0, hp => exact absurd rfl hp
    | 1, _ => simp only [layO]; rw [show (fun i => upd (M 5) 0 v (10 + i)) = (fun i => M 5 (10 + i)) from funext fun i => upd_ne (by omega)]
    | n + 2, _ => rfl) hM hd kk
theorem gf_X3_19 {v : Int32} (C : Ok 1 Z E cc nL RX3 ret h) (hd : decode cc pc = .ok (.getfield 19, 3)) (hv : M 5 3 = v) (kk : GT Z E nL fin (pc + 3) lv (.int v :: rest) M N t) : GT Z E nL fin pc lv (.ref (zA Z 5 0) :: rest) M N t := by
  subst hv; exact r_get C us_X3 (ci := 3) rfl 4 (by decide) wd_183 (lyO C.z (g := 5) (by decide) (by decide) _ _ 0) rfl hd kk
theorem pf_X3_19 {v : Int32} (C : Ok 1 Z E cc nL RX3 ret h) (hd : decode cc pc = .ok (.putfield 19, 3)) (hM : wM M 5 3 v = M') (kk : GT Z E nL fin (pc + 3) lv rest M' N t) : GT Z E nL fin pc lv (.int v :: .ref (zA Z 5 0) :: rest) M N t :=
  r_put C us_X3 tyX3 tyX3_ok nmX3 (ci := 3) rfl 4 (by decide) wd_183 rfl (ty := .int) rfl rfl rfl (Nat.le_of_ble_eq_true rfl) (lyO C.z (g := 5) (by decide) (by decide) _ _ 0) (lyO C.z (g := 5) (by decide) (by decide) _ _ 0) (fun p e hp q => by
    rw [lyO C.z (by decide) (by decide)] at q ⊢; rw [← q]
    match p, hp with
    | 0, hp => exact absurd rfl hp
    | 1, _ => simp only [layO]; rw [show (fun i => upd (M 5) 3 v (10 + i)) = (fun i => M 5 (10 + i)) from funext fun i => upd_ne (by omega)]
    | n + 2, _ => rfl) hM hd kk
theorem gf_X3_29 {v : Int32} (C : Ok 1 Z E cc nL RX3 ret h) (hd : decode cc pc = .ok (.getfield 29, 3)) (hv : M 5 1 = v) (kk : GT Z E nL fin (pc + 3) lv (.int v :: rest) M N t) : GT Z E nL fin pc lv (.ref (zA Z 5 0) :: rest) M N t := by
  subst hv; exact r_get C us_X3 (ci := 3) rfl 2 (by decide) wd_181 (lyO C.z (g := 5) (by decide) (by decide) _ _ 0) rfl hd kk
theorem pf_X3_29 {v : Int32} (C : Ok 1 Z E cc nL RX3 ret h) (hd : decode cc pc = .ok (.putfield 29, 3)) (hM : wM M 5 1 v = M') (kk : GT Z E nL fin (pc + 3) lv rest M' N t) : GT Z E nL fin pc lv (.int v :: .ref (zA Z 5 0) :: rest) M N t :=
  r_put C us_X3 tyX3 tyX3_ok nmX3 (ci := 3) rfl 2 (by decide) wd_181 rfl (ty := .int) rfl rfl rfl (Nat.le_of_ble_eq_true rfl) (lyO C.z (g := 5) (by decide) (by decide) _ _ 0) (lyO C.z (g := 5) (by decide) (by decide) _ _ 0) (fun p e hp q => by
    rw [lyO C.z (by decide) (by decide)] at q ⊢; rw [← q]
    match p, hp with
    | 0, hp => exact absurd rfl hp
    | 1, _ => simp only [layO]; rw [show (fun i => upd (M 5) 1 v (10 + i)) = (fun i => M 5 (10 + i)) from funext fun i => upd_ne (by omega)]
    | n + 2, _ => rfl) hM hd kk
theorem gf_X3_32 {v : Int32} (C : Ok 1 Z E cc nL RX3 ret h) (hd : decode cc pc = .ok (.getfield 32, 3)) (hv : M 5 2 = v) (kk : GT Z E nL fin (pc + 3) lv (.int v :: rest) M N t) : GT Z E nL fin pc lv (.ref (zA Z 5 0) :: rest) M N t := by
  subst hv; exact r_get C us_X3 (ci := 3) rfl 3 (by decide) wd_182 (lyO C.z (g := 5) (by decide) (by decide) _ _ 0) rfl hd kk
theorem pf_X3_32 {v : Int32} (C : Ok 1 Z E cc nL RX3 ret h) (hd : decode cc pc = .ok (.putfield 32, 3)) (hM : wM M 5 2 v = M') (kk : GT Z E nL fin (pc + 3) lv rest M' N t) : GT Z E nL fin pc lv (.int v :: .ref (zA Z 5 0) :: rest) M N t :=
  r_put C us_X3 tyX3 tyX3_ok nmX3 (ci := 3) rfl 3 (by decide) wd_182 rfl (ty := .int) rfl rfl rfl (Nat.le_of_ble_eq_true rfl) (lyO C.z (g := 5) (by decide) (by decide) _ _ 0) (lyO C.z (g := 5) (by decide) (by decide) _ _ 0) (fun p e hp q => by
    rw [lyO C.z (by decide) (by decide)] at q ⊢; rw [← q]
    match p, hp with
    | 0, hp => exact absurd rfl hp
    | 1, _ => simp only [layO]; rw [show (fun i => upd (M 5) 2 v (10 + i)) = (fun i => M 5 (10 + i)) from funext fun i => upd_ne (by omega)]
    | n + 2, _ => rfl) hM hd kk
theorem gf_X3_97 {v : Int32} (C : Ok 1 Z E cc nL RX3 ret h) (hd : decode cc pc = .ok (.getfield 97, 3)) (hv : M 5 5 = v) (kk : GT Z E nL fin (pc + 3) lv (.int v :: rest) M N t) : GT Z E nL fin pc lv (.ref (zA Z 5 0) :: rest) M N t := by
  subst hv; exact r_get C us_X3 (ci := 3) rfl 6 (by decide) wd_185 (lyO C.z (g := 5) (by decide) (by decide) _ _ 0) rfl hd kk
theorem pf_X3_97 {v : Int32} (C : Ok 1 Z E cc nL RX3 ret h) (hd : decode cc pc = .ok (.putfield 97, 3)) (hM : wM M 5 5 v = M') (kk : GT Z E nL fin (pc + 3) lv rest M' N t) : GT Z E nL fin pc lv (.int v :: .ref (zA Z 5 0) :: rest) M N t :=
  r_put C us_X3 tyX3 tyX3_ok nmX3 (ci := 3) rfl 6 (by decide) wd_185 rfl (ty := .int) rfl rfl rfl (Nat.le_of_ble_eq_true rfl) (lyO C.z (g := 5) (by decide) (by decide) _ _ 0) (lyO C.z (g := 5) (by decide) (by decide) _ _ 0) (fun p e hp q => by
    rw [lyO C.z (by decide) (by decide)] at q ⊢; rw [← q]
    match p, hp with
    | 0, hp => exact absurd rfl hp
    | 1, _ => simp only [layO]; rw [show (fun i => upd (M 5) 5 v (10 + i)) = (fun i => M 5 (10 + i)) from funext fun i => upd_ne (by omega)]
    | n + 2, _ => rfl) hM hd kk
theorem gf_X3_110 {j : Nat} {v : Int32} (C : Ok 1 Z E cc nL RX3 ret h) (hj : j < 4) (hd : decode cc pc = .ok (.getfield 110, 3)) (hv : M j 6 = v) (kk : GT Z E nL fin (pc + 3) lv (.int v :: rest) M N t) : GT Z E nL fin pc lv (.ref (zA Z j 0) :: rest) M N t := by
  subst hv; exact r_getN C us_X0 (ci := 0) rfl 1 (by decide) 18 rfl (lyI C.z hj _ _ 0) rfl hd kk
theorem pf_X3_110 {j : Nat} {v : Int32} (C : Ok 1 Z E cc nL RX3 ret h) (hj : j < 4) (hd : decode cc pc = .ok (.putfield 110, 3)) (hM : wM M j 6 v = M') (kk : GT Z E nL fin (pc + 3) lv rest M' N t) : GT Z E nL fin pc lv (.int v :: .ref (zA Z j 0) :: rest) M N t :=
  r_putN C us_X0 tyX0 tyX0_ok nmX0 (ci := 0) rfl 1 (by decide) 18 rfl rfl (ty := .int) rfl rfl rfl (Nat.le_of_ble_eq_true rfl) (lyI C.z hj _ _ 0) (lyI C.z hj _ _ 0) (fun p e hp q => by rw [lyI C.z hj] at q ⊢; rw [← q]; exact (hoO (by omega) p hp).symm) hM hd kk
theorem gf_X3_113 {j : Nat} (C : Ok 1 Z E cc nL RX3 ret h) (hj : j < 4) (hd : decode cc pc = .ok (.getfield 113, 3)) (kk : GT Z E nL fin (pc + 3) lv (.ref (zA Z j 1) :: rest) M N t) : GT Z E nL fin pc lv (.ref (zA Z j 0) :: rest) M N t :=
  r_getN C us_X0 (ci := 0) rfl 4 (by decide) 19 rfl (lyI C.z hj _ _ 0) rfl hd kk
theorem gf_X3_116 {v : Int32} (C : Ok 1 Z E cc nL RX3 ret h) (hd : decode cc pc = .ok (.getfield 116, 3)) (hv : M 5 4 = v) (kk : GT Z E nL fin (pc + 3) lv (.int v :: rest) M N t) : GT Z E nL fin pc lv (.ref (zA Z 5 0) :: rest) M N t := by
  subst hv; exact r_get C us_X3 (ci := 3) rfl 5 (by decide) wd_184 (lyO C.z (g := 5) (by decide) (by decide) _ _ 0) rfl hd kk
theorem pf_X3_116 {v : Int32} (C : Ok 1 Z E cc nL RX3 ret h) (hd : decode cc pc = .ok (.putfield 116, 3)) (hM : wM M 5 4 v = M') (kk : GT Z E nL fin (pc + 3) lv rest M' N t) : GT Z E nL fin pc lv (.int v :: .ref (zA Z 5 0) :: rest) M N t :=
  r_put C us_X3 tyX3 tyX3_ok nmX3 (ci := 3) rfl 5 (by decide) wd_184 rfl (ty := .int) rfl rfl rfl (Nat.le_of_ble_eq_true rfl) (lyO C.z (g := 5) (by decide) (by decide) _ _ 0) (lyO C.z (g := 5) (by decide) (by decide) _ _ 0) (fun p e hp q => by
    rw [lyO C.z (by decide) (by decide)] at q ⊢; rw [← q]
    match p, hp with
    | 0, hp => exact absurd rfl hp
    | 1, _ => simp only [layO]; rw [show (fun i => upd (M 5) 4 v (10 + i)) = (fun i => M 5 (10 + i)) from funext fun i => upd_ne (by omega)]
    | n + 2, _ => rfl) hM hd kk
theorem gf_X4_12 (C : Ok 1 Z E cc nL RX4 ret h) (hd : decode cc pc = .ok (.getfield 12, 3)) (kk : GT Z E nL fin (pc + 3) lv (.ref (zA Z 0 0) :: rest) M N t) : GT Z E nL fin pc lv (.ref (zA Z 8 0) :: rest) M N t :=
  r_get C us_X4 (ci := 4) rfl 0 (by decide) wd_224 (lyO C.z (g := 8) (by decide) (by decide) _ _ 0) rfl hd kk
theorem gf_X4_16 (C : Ok 1 Z E cc nL RX4 ret h) (hd : decode cc pc = .ok (.getfield 16, 3)) (kk : GT Z E nL fin (pc + 3) lv (.ref (zA Z 1 0) :: rest) M N t) : GT Z E nL fin pc lv (.ref (zA Z 8 0) :: rest) M N t :=
  r_get C us_X4 (ci := 4) rfl 1 (by decide) wd_225 (lyO C.z (g := 8) (by decide) (by decide) _ _ 0) rfl hd kk
theorem gf_X4_19 (C : Ok 1 Z E cc nL RX4 ret h) (hd : decode cc pc = .ok (.getfield 19, 3)) (kk : GT Z E nL fin (pc + 3) lv (.ref (zA Z 2 0) :: rest) M N t) : GT Z E nL fin pc lv (.ref (zA Z 8 0) :: rest) M N t :=
  r_get C us_X4 (ci := 4) rfl 2 (by decide) wd_226 (lyO C.z (g := 8) (by decide) (by decide) _ _ 0) rfl hd kk
theorem gf_X4_25 (C : Ok 1 Z E cc nL RX4 ret h) (hd : decode cc pc = .ok (.getfield 25, 3)) (kk : GT Z E nL fin (pc + 3) lv (.ref (zA Z 4 0) :: rest) M N t) : GT Z E nL fin pc lv (.ref (zA Z 8 0) :: rest) M N t :=
  r_get C us_X4 (ci := 4) rfl 3 (by decide) wd_227 (lyO C.z (g := 8) (by decide) (by decide) _ _ 0) rfl hd kk
theorem gf_X4_32 (C : Ok 1 Z E cc nL RX4 ret h) (hd : decode cc pc = .ok (.getfield 32, 3)) (kk : GT Z E nL fin (pc + 3) lv (.ref (zA Z 5 0) :: rest) M N t) : GT Z E nL fin pc lv (.ref (zA Z 8 0) :: rest) M N t :=
  r_get C us_X4 (ci := 4) rfl 4 (by decide) wd_228 (lyO C.z (g := 8) (by decide) (by decide) _ _ 0) rfl hd kk
theorem gf_X4_38 (C : Ok 1 Z E cc nL RX4 ret h) (hd : decode cc pc = .ok (.getfield 38, 3)) (kk : GT Z E nL fin (pc + 3) lv (.ref (zA Z 6 0) :: rest) M N t) : GT Z E nL fin pc lv (.ref (zA Z 8 0) :: rest) M N t :=
  r_get C us_X4 (ci := 4) rfl 5 (by decide) wd_229 (lyO C.z (g := 8) (by decide) (by decide) _ _ 0) rfl hd kk
theorem gf_X4_43 (C : Ok 1 Z E cc nL RX4 ret h) (hd : decode cc pc = .ok (.getfield 43, 3)) (kk : GT Z E nL fin (pc + 3) lv (.ref (zA Z 7 0) :: rest) M N t) : GT Z E nL fin pc lv (.ref (zA Z 8 0) :: rest) M N t :=
  r_get C us_X4 (ci := 4) rfl 6 (by decide) wd_230 (lyO C.z (g := 8) (by decide) (by decide) _ _ 0) rfl hd kk
theorem gf_X4_47 {v : Int32} (C : Ok 1 Z E cc nL RX4 ret h) (hd : decode cc pc = .ok (.getfield 47, 3)) (hv : M 8 0 = v) (kk : GT Z E nL fin (pc + 3) lv (.int v :: rest) M N t) : GT Z E nL fin pc lv (.ref (zA Z 8 0) :: rest) M N t := by
  subst hv; exact r_get C us_X4 (ci := 4) rfl 7 (by decide) wd_231 (lyO C.z (g := 8) (by decide) (by decide) _ _ 0) rfl hd kk
theorem pf_X4_47 {v : Int32} (C : Ok 1 Z E cc nL RX4 ret h) (hd : decode cc pc = .ok (.putfield 47, 3)) (hz : v = 0 ∨ v = 1) (hM : wM M 8 0 v = M') (kk : GT Z E nL fin (pc + 3) lv rest M' N t) : GT Z E nL fin pc lv (.int v :: .ref (zA Z 8 0) :: rest) M N t :=
  r_put C us_X4 tyX4 tyX4_ok nmX4 (ci := 4) rfl 7 (by decide) wd_231 rfl (ty := .boolean) rfl (by rcases hz with rfl | rfl <;> rfl) (by rcases hz with rfl | rfl <;> rfl) (Nat.le_of_ble_eq_true rfl) (lyO C.z (g := 8) (by decide) (by decide) _ _ 0) (lyO C.z (g := 8) (by decide) (by decide) _ _ 0) (fun p e hp q => by
    rw [lyO C.z (by decide) (by decide)] at q ⊢; rw [← q]
    match p, hp with
    | 0, hp => exact absurd rfl hp
    | n + 1, _ => rfl) hM hd kk
theorem gf_X4_73 {j : Nat} (C : Ok 1 Z E cc nL RX4 ret h) (hj : j < 4) (hd : decode cc pc = .ok (.getfield 73, 3)) (kk : GT Z E nL fin (pc + 3) lv (.ref (zA Z j 1) :: rest) M N t) : GT Z E nL fin pc lv (.ref (zA Z j 0) :: rest) M N t :=
  r_getN C us_X0 (ci := 0) rfl 4 (by decide) 13 rfl (lyI C.z hj _ _ 0) rfl hd kk
theorem gf_X4_80 {j : Nat} {v : Int32} (C : Ok 1 Z E cc nL RX4 ret h) (hj : j < 4) (hd : decode cc pc = .ok (.getfield 80, 3)) (hv : M j 6 = v) (kk : GT Z E nL fin (pc + 3) lv (.int v :: rest) M N t) : GT Z E nL fin pc lv (.ref (zA Z j 0) :: rest) M N t := by
  subst hv; exact r_getN C us_X0 (ci := 0) rfl 1 (by decide) 14 rfl (lyI C.z hj _ _ 0) rfl hd kk
theorem pf_X4_80 {j : Nat} {v : Int32} (C : Ok 1 Z E cc nL RX4 ret h) (hj : j < 4) (hd : decode cc pc = .ok (.putfield 80, 3)) (hM : wM M j 6 v = M') (kk : GT Z E nL fin (pc + 3) lv rest M' N t) : GT Z E nL fin pc lv (.int v :: .ref (zA Z j 0) :: rest) M N t :=
  r_putN C us_X0 tyX0 tyX0_ok nmX0 (ci := 0) rfl 1 (by decide) 14 rfl rfl (ty := .int) rfl rfl rfl (Nat.le_of_ble_eq_true rfl) (lyI C.z hj _ _ 0) (lyI C.z hj _ _ 0) (fun p e hp q => by rw [lyI C.z hj] at q ⊢; rw [← q]; exact (hoO (by omega) p hp).symm) hM hd kk
theorem gf_X4_104 {j : Nat} (C : Ok 1 Z E cc nL RX4 ret h) (hj : j < 4) (hd : decode cc pc = .ok (.getfield 104, 3)) (kk : GT Z E nL fin (pc + 3) lv (.ref (zA Z j 2) :: rest) M N t) : GT Z E nL fin pc lv (.ref (zA Z j 0) :: rest) M N t :=
  r_getN C us_X0 (ci := 0) rfl 5 (by decide) 0 rfl (lyI C.z hj _ _ 0) rfl hd kk
theorem gf_X4_107 {j : Nat} (C : Ok 1 Z E cc nL RX4 ret h) (hj : j < 4) (hd : decode cc pc = .ok (.getfield 107, 3)) (kk : GT Z E nL fin (pc + 3) lv (.ref (zA Z j 3) :: rest) M N t) : GT Z E nL fin pc lv (.ref (zA Z j 0) :: rest) M N t :=
  r_getN C us_X0 (ci := 0) rfl 6 (by decide) 1 rfl (lyI C.z hj _ _ 0) rfl hd kk
theorem gf_X4_110 {j : Nat} (C : Ok 1 Z E cc nL RX4 ret h) (hj : j < 4) (hd : decode cc pc = .ok (.getfield 110, 3)) (kk : GT Z E nL fin (pc + 3) lv (.ref (zA Z j 4) :: rest) M N t) : GT Z E nL fin pc lv (.ref (zA Z j 0) :: rest) M N t :=
  r_getN C us_X0 (ci := 0) rfl 7 (by decide) 2 rfl (lyI C.z hj _ _ 0) rfl hd kk
theorem gf_X4_113 {j : Nat} (C : Ok 1 Z E cc nL RX4 ret h) (hj : j < 4) (hd : decode cc pc = .ok (.getfield 113, 3)) (kk : GT Z E nL fin (pc + 3) lv (.ref (zA Z j 5) :: rest) M N t) : GT Z E nL fin pc lv (.ref (zA Z j 0) :: rest) M N t :=
  r_getN C us_X0 (ci := 0) rfl 8 (by decide) 3 rfl (lyI C.z hj _ _ 0) rfl hd kk
theorem gf_X4_136 {j : Nat} {v : Int32} (C : Ok 1 Z E cc nL RX4 ret h) (hj : j < 4) (hd : decode cc pc = .ok (.getfield 136, 3)) (hv : M j 0 = v) (kk : GT Z E nL fin (pc + 3) lv (.int v :: rest) M N t) : GT Z E nL fin pc lv (.ref (zA Z j 0) :: rest) M N t := by
  subst hv; exact r_getN C us_X0 (ci := 0) rfl 2 (by decide) 4 rfl (lyI C.z hj _ _ 0) rfl hd kk
theorem gf_X4_196 {j : Nat} {v : Int32} (C : Ok 1 Z E cc nL RX4 ret h) (hj : j < 4) (hd : decode cc pc = .ok (.getfield 196, 3)) (hv : M j 2 = v) (kk : GT Z E nL fin (pc + 3) lv (.int v :: rest) M N t) : GT Z E nL fin pc lv (.ref (zA Z j 0) :: rest) M N t := by
  subst hv; exact r_getN C us_X0 (ci := 0) rfl 0 (by decide) 5 rfl (lyI C.z hj _ _ 0) rfl hd kk
theorem gf_X4_210 (C : Ok 1 Z E cc nL RX4 ret h) (hd : decode cc pc = .ok (.getfield 210, 3)) (kk : GT Z E nL fin (pc + 3) lv (.ref (zA Z 3 0) :: rest) M N t) : GT Z E nL fin pc lv (.ref (zA Z 4 0) :: rest) M N t :=
  r_getN C us_X1 (ci := 1) rfl 0 (by decide) 6 rfl (lyO C.z (g := 4) (by decide) (by decide) _ _ 0) rfl hd kk
theorem gf_X4_220 {v : Int32} (C : Ok 1 Z E cc nL RX4 ret h) (hd : decode cc pc = .ok (.getfield 220, 3)) (hv : M 5 0 = v) (kk : GT Z E nL fin (pc + 3) lv (.int v :: rest) M N t) : GT Z E nL fin pc lv (.ref (zA Z 5 0) :: rest) M N t := by
  subst hv; exact r_getN C us_X3 (ci := 3) rfl 1 (by decide) 7 rfl (lyO C.z (g := 5) (by decide) (by decide) _ _ 0) rfl hd kk
theorem pf_X4_220 {v : Int32} (C : Ok 1 Z E cc nL RX4 ret h) (hd : decode cc pc = .ok (.putfield 220, 3)) (hM : wM M 5 0 v = M') (kk : GT Z E nL fin (pc + 3) lv rest M' N t) : GT Z E nL fin pc lv (.int v :: .ref (zA Z 5 0) :: rest) M N t :=
  r_putN C us_X3 tyX3 tyX3_ok nmX3 (ci := 3) rfl 1 (by decide) 7 rfl rfl (ty := .int) rfl rfl rfl (Nat.le_of_ble_eq_true rfl) (lyO C.z (g := 5) (by decide) (by decide) _ _ 0) (lyO C.z (g := 5) (by decide) (by decide) _ _ 0) (fun p e hp q => by
    rw [lyO C.z (by decide) (by decide)] at q ⊢; rw [← q]
    match p, hp with
    | 0, hp => exact absurd rfl hp
    | 1, _ => simp only [layO]; rw [show (fun i => upd (M 5) 0 v (10 + i)) = (fun i => M 5 (10 + i)) from funext fun i => upd_ne (by omega)]
    | n + 2, _ => rfl) hM hd kk
theorem gf_X4_234 {g : Nat} {v : Int32} (C : Ok 1 Z E cc nL RX4 ret h) (hg : 20 ≤ g ∧ g < 24) (hd : decode cc pc = .ok (.getfield 234, 3)) (hv : M g 1 = v) (kk : GT Z E nL fin (pc + 3) lv (.int v :: rest) M N t) : GT Z E nL fin pc lv (.ref (zA Z g 0) :: rest) M N t := by
  subst hv; exact r_getN C us_X2 (ci := 2) rfl 2 (by decide) 8 rfl (lyS C.z hg _ _ 0) rfl hd kk
theorem gf_X4_238 {g : Nat} (C : Ok 1 Z E cc nL RX4 ret h) (hg : 20 ≤ g ∧ g < 24) (hd : decode cc pc = .ok (.getfield 238, 3)) (kk : GT Z E nL fin (pc + 3) lv (.ref (zA Z g 1) :: rest) M N t) : GT Z E nL fin pc lv (.ref (zA Z g 0) :: rest) M N t :=
  r_getN C us_X2 (ci := 2) rfl 0 (by decide) 9 rfl (lyS C.z hg _ _ 0) rfl hd kk
theorem gf_X4_249 {g : Nat} {v : Int32} (C : Ok 1 Z E cc nL RX4 ret h) (hg : 20 ≤ g ∧ g < 24) (hd : decode cc pc = .ok (.getfield 249, 3)) (hv : M g 0 = v) (kk : GT Z E nL fin (pc + 3) lv (.int v :: rest) M N t) : GT Z E nL fin pc lv (.ref (zA Z g 0) :: rest) M N t := by
  subst hv; exact r_getN C us_X2 (ci := 2) rfl 1 (by decide) 10 rfl (lyS C.z hg _ _ 0) rfl hd kk
theorem gf_X4_272 {j : Nat} {v : Int32} (C : Ok 1 Z E cc nL RX4 ret h) (hj : j < 4) (hd : decode cc pc = .ok (.getfield 272, 3)) (hv : M j 1 = v) (kk : GT Z E nL fin (pc + 3) lv (.int v :: rest) M N t) : GT Z E nL fin pc lv (.ref (zA Z j 0) :: rest) M N t := by
  subst hv; exact r_getN C us_X0 (ci := 0) rfl 3 (by decide) 11 rfl (lyI C.z hj _ _ 0) rfl hd kk
theorem gf_X4_279 {v : Int32} (C : Ok 1 Z E cc nL RX4 ret h) (hd : decode cc pc = .ok (.getfield 279, 3)) (hv : M 4 1 = v) (kk : GT Z E nL fin (pc + 3) lv (.int v :: rest) M N t) : GT Z E nL fin pc lv (.ref (zA Z 4 0) :: rest) M N t := by
  subst hv; exact r_getN C us_X1 (ci := 1) rfl 2 (by decide) 12 rfl (lyO C.z (g := 4) (by decide) (by decide) _ _ 0) rfl hd kk
theorem gf_X5_7 (C : Ok 2 Z E cc nL RX5 ret h) (hd : decode cc pc = .ok (.getfield 7, 3)) (kk : GT Z E nL fin (pc + 3) lv (.ref (zA Z 0 0) :: rest) M N t) : GT Z E nL fin pc lv (.ref (zA Z 6 0) :: rest) M N t :=
  r_get C us_X5 (ci := 5) rfl 0 (by decide) wd_796 (lyM C.z 6 _ _ 0) rfl hd kk
theorem gf_X5_13 (C : Ok 2 Z E cc nL RX5 ret h) (hd : decode cc pc = .ok (.getfield 13, 3)) (kk : GT Z E nL fin (pc + 3) lv (.ref (zA Z 1 0) :: rest) M N t) : GT Z E nL fin pc lv (.ref (zA Z 6 0) :: rest) M N t :=
  r_get C us_X5 (ci := 5) rfl 1 (by decide) wd_797 (lyM C.z 6 _ _ 0) rfl hd kk
theorem gf_X5_16 (C : Ok 2 Z E cc nL RX5 ret h) (hd : decode cc pc = .ok (.getfield 16, 3)) (kk : GT Z E nL fin (pc + 3) lv (.ref (zA Z 2 0) :: rest) M N t) : GT Z E nL fin pc lv (.ref (zA Z 6 0) :: rest) M N t :=
  r_get C us_X5 (ci := 5) rfl 2 (by decide) wd_798 (lyM C.z 6 _ _ 0) rfl hd kk
theorem gf_X5_19 (C : Ok 2 Z E cc nL RX5 ret h) (hd : decode cc pc = .ok (.getfield 19, 3)) (kk : GT Z E nL fin (pc + 3) lv (.ref (zA Z 3 0) :: rest) M N t) : GT Z E nL fin pc lv (.ref (zA Z 6 0) :: rest) M N t :=
  r_get C us_X5 (ci := 5) rfl 3 (by decide) wd_799 (lyM C.z 6 _ _ 0) rfl hd kk
theorem gf_X5_22 (C : Ok 2 Z E cc nL RX5 ret h) (hd : decode cc pc = .ok (.getfield 22, 3)) (kk : GT Z E nL fin (pc + 3) lv (.ref (zA Z 4 0) :: rest) M N t) : GT Z E nL fin pc lv (.ref (zA Z 6 0) :: rest) M N t :=
  r_get C us_X5 (ci := 5) rfl 4 (by decide) wd_800 (lyM C.z 6 _ _ 0) rfl hd kk
theorem gf_X5_25 (C : Ok 2 Z E cc nL RX5 ret h) (hd : decode cc pc = .ok (.getfield 25, 3)) (kk : GT Z E nL fin (pc + 3) lv (.ref (zA Z 5 0) :: rest) M N t) : GT Z E nL fin pc lv (.ref (zA Z 6 0) :: rest) M N t :=
  r_get C us_X5 (ci := 5) rfl 7 (by decide) wd_803 (lyM C.z 6 _ _ 0) rfl hd kk
theorem gf_X5_28 (C : Ok 2 Z E cc nL RX5 ret h) (hd : decode cc pc = .ok (.getfield 28, 3)) (kk : GT Z E nL fin (pc + 3) lv (.ref (zA Z 7 0) :: rest) M N t) : GT Z E nL fin pc lv (.ref (zA Z 6 0) :: rest) M N t :=
  r_get C us_X5 (ci := 5) rfl 13 (by decide) wd_809 (lyM C.z 6 _ _ 0) rfl hd kk
theorem gf_X5_31 (C : Ok 2 Z E cc nL RX5 ret h) (hd : decode cc pc = .ok (.getfield 31, 3)) (kk : GT Z E nL fin (pc + 3) lv (.ref (zA Z 8 0) :: rest) M N t) : GT Z E nL fin pc lv (.ref (zA Z 6 0) :: rest) M N t :=
  r_get C us_X5 (ci := 5) rfl 14 (by decide) wd_810 (lyM C.z 6 _ _ 0) rfl hd kk
theorem gf_X5_34 (C : Ok 2 Z E cc nL RX5 ret h) (hd : decode cc pc = .ok (.getfield 34, 3)) (kk : GT Z E nL fin (pc + 3) lv (.ref (zA Z 9 0) :: rest) M N t) : GT Z E nL fin pc lv (.ref (zA Z 6 0) :: rest) M N t :=
  r_get C us_X5 (ci := 5) rfl 15 (by decide) wd_811 (lyM C.z 6 _ _ 0) rfl hd kk
theorem gf_X5_38 (C : Ok 2 Z E cc nL RX5 ret h) (hd : decode cc pc = .ok (.getfield 38, 3)) (kk : GT Z E nL fin (pc + 3) lv (.ref (zA Z 10 0) :: rest) M N t) : GT Z E nL fin pc lv (.ref (zA Z 6 0) :: rest) M N t :=
  r_get C us_X5 (ci := 5) rfl 16 (by decide) wd_812 (lyM C.z 6 _ _ 0) rfl hd kk
theorem gf_X5_194 {v : Int32} (C : Ok 2 Z E cc nL RX5 ret h) (hd : decode cc pc = .ok (.getfield 194, 3)) (hv : M 6 1 = v) (kk : GT Z E nL fin (pc + 3) lv (.int v :: rest) M N t) : GT Z E nL fin pc lv (.ref (zA Z 6 0) :: rest) M N t := by
  subst hv; exact r_get C us_X5 (ci := 5) rfl 6 (by decide) wd_802 (lyM C.z 6 _ _ 0) rfl hd kk
theorem pf_X5_194 {v : Int32} (C : Ok 2 Z E cc nL RX5 ret h) (hd : decode cc pc = .ok (.putfield 194, 3)) (hM : wM M 6 1 v = M') (kk : GT Z E nL fin (pc + 3) lv rest M' N t) : GT Z E nL fin pc lv (.int v :: .ref (zA Z 6 0) :: rest) M N t :=
  r_put C us_X5 tyX5 tyX5_ok nmX5 (ci := 5) rfl 6 (by decide) wd_802 rfl (ty := .int) rfl rfl rfl (Nat.le_of_ble_eq_true rfl) (lyM C.z 6 _ _ 0) (lyM C.z 6 _ _ 0) (fun p e hp q => by
    rw [lyM C.z] at q ⊢; rw [← q]
    match p, hp with
    | 0, hp => exact absurd rfl hp
    | n + 1, _ => rfl) hM hd kk
theorem gf_X5_214 {v : Int32} (C : Ok 2 Z E cc nL RX5 ret h) (hd : decode cc pc = .ok (.getfield 214, 3)) (hv : M 6 2 = v) (kk : GT Z E nL fin (pc + 3) lv (.int v :: rest) M N t) : GT Z E nL fin pc lv (.ref (zA Z 6 0) :: rest) M N t := by
  subst hv; exact r_get C us_X5 (ci := 5) rfl 8 (by decide) wd_804 (lyM C.z 6 _ _ 0) rfl hd kk
theorem pf_X5_214 {v : Int32} (C : Ok 2 Z E cc nL RX5 ret h) (hd : decode cc pc = .ok (.putfield 214, 3)) (hM : wM M 6 2 v = M') (kk : GT Z E nL fin (pc + 3) lv rest M' N t) : GT Z E nL fin pc lv (.int v :: .ref (zA Z 6 0) :: rest) M N t :=
  r_put C us_X5 tyX5 tyX5_ok nmX5 (ci := 5) rfl 8 (by decide) wd_804 rfl (ty := .int) rfl rfl rfl (Nat.le_of_ble_eq_true rfl) (lyM C.z 6 _ _ 0) (lyM C.z 6 _ _ 0) (fun p e hp q => by
    rw [lyM C.z] at q ⊢; rw [← q]
    match p, hp with
    | 0, hp => exact absurd rfl hp
    | n + 1, _ => rfl) hM hd kk
theorem gf_X5_223 {v : Int32} (C : Ok 2 Z E cc nL RX5 ret h) (hd : decode cc pc = .ok (.getfield 223, 3)) (hv : M 6 4 = v) (kk : GT Z E nL fin (pc + 3) lv (.int v :: rest) M N t) : GT Z E nL fin pc lv (.ref (zA Z 6 0) :: rest) M N t := by
  subst hv; exact r_get C us_X5 (ci := 5) rfl 10 (by decide) wd_806 (lyM C.z 6 _ _ 0) rfl hd kk
theorem pf_X5_223 {v : Int32} (C : Ok 2 Z E cc nL RX5 ret h) (hd : decode cc pc = .ok (.putfield 223, 3)) (hM : wM M 6 4 v = M') (kk : GT Z E nL fin (pc + 3) lv rest M' N t) : GT Z E nL fin pc lv (.int v :: .ref (zA Z 6 0) :: rest) M N t :=
  r_put C us_X5 tyX5 tyX5_ok nmX5 (ci := 5) rfl 10 (by decide) wd_806 rfl (ty := .int) rfl rfl rfl (Nat.le_of_ble_eq_true rfl) (lyM C.z 6 _ _ 0) (lyM C.z 6 _ _ 0) (fun p e hp q => by
    rw [lyM C.z] at q ⊢; rw [← q]
    match p, hp with
    | 0, hp => exact absurd rfl hp
    | n + 1, _ => rfl) hM hd kk
theorem gf_X5_226 {v : Int32} (C : Ok 2 Z E cc nL RX5 ret h) (hd : decode cc pc = .ok (.getfield 226, 3)) (hv : M 6 3 = v) (kk : GT Z E nL fin (pc + 3) lv (.int v :: rest) M N t) : GT Z E nL fin pc lv (.ref (zA Z 6 0) :: rest) M N t := by
  subst hv; exact r_get C us_X5 (ci := 5) rfl 9 (by decide) wd_805 (lyM C.z 6 _ _ 0) rfl hd kk
theorem pf_X5_226 {v : Int32} (C : Ok 2 Z E cc nL RX5 ret h) (hd : decode cc pc = .ok (.putfield 226, 3)) (hM : wM M 6 3 v = M') (kk : GT Z E nL fin (pc + 3) lv rest M' N t) : GT Z E nL fin pc lv (.int v :: .ref (zA Z 6 0) :: rest) M N t :=
  r_put C us_X5 tyX5 tyX5_ok nmX5 (ci := 5) rfl 9 (by decide) wd_805 rfl (ty := .int) rfl rfl rfl (Nat.le_of_ble_eq_true rfl) (lyM C.z 6 _ _ 0) (lyM C.z 6 _ _ 0) (fun p e hp q => by
    rw [lyM C.z] at q ⊢; rw [← q]
    match p, hp with
    | 0, hp => exact absurd rfl hp
    | n + 1, _ => rfl) hM hd kk
theorem gf_X5_238 {v : Int32} (C : Ok 2 Z E cc nL RX5 ret h) (hd : decode cc pc = .ok (.getfield 238, 3)) (hv : M 6 6 = v) (kk : GT Z E nL fin (pc + 3) lv (.int v :: rest) M N t) : GT Z E nL fin pc lv (.ref (zA Z 6 0) :: rest) M N t := by
  subst hv; exact r_get C us_X5 (ci := 5) rfl 12 (by decide) wd_808 (lyM C.z 6 _ _ 0) rfl hd kk
theorem pf_X5_238 {v : Int32} (C : Ok 2 Z E cc nL RX5 ret h) (hd : decode cc pc = .ok (.putfield 238, 3)) (hz : v = 0 ∨ v = 1) (hM : wM M 6 6 v = M') (kk : GT Z E nL fin (pc + 3) lv rest M' N t) : GT Z E nL fin pc lv (.int v :: .ref (zA Z 6 0) :: rest) M N t :=
  r_put C us_X5 tyX5 tyX5_ok nmX5 (ci := 5) rfl 12 (by decide) wd_808 rfl (ty := .boolean) rfl (by rcases hz with rfl | rfl <;> rfl) (by rcases hz with rfl | rfl <;> rfl) (Nat.le_of_ble_eq_true rfl) (lyM C.z 6 _ _ 0) (lyM C.z 6 _ _ 0) (fun p e hp q => by
    rw [lyM C.z] at q ⊢; rw [← q]
    match p, hp with
    | 0, hp => exact absurd rfl hp
    | n + 1, _ => rfl) hM hd kk
theorem gf_X5_249 {v : Int32} (C : Ok 2 Z E cc nL RX5 ret h) (hd : decode cc pc = .ok (.getfield 249, 3)) (hv : M 6 5 = v) (kk : GT Z E nL fin (pc + 3) lv (.int v :: rest) M N t) : GT Z E nL fin pc lv (.ref (zA Z 6 0) :: rest) M N t := by
  subst hv; exact r_get C us_X5 (ci := 5) rfl 11 (by decide) wd_807 (lyM C.z 6 _ _ 0) rfl hd kk
theorem pf_X5_249 {v : Int32} (C : Ok 2 Z E cc nL RX5 ret h) (hd : decode cc pc = .ok (.putfield 249, 3)) (hM : wM M 6 5 v = M') (kk : GT Z E nL fin (pc + 3) lv rest M' N t) : GT Z E nL fin pc lv (.int v :: .ref (zA Z 6 0) :: rest) M N t :=
  r_put C us_X5 tyX5 tyX5_ok nmX5 (ci := 5) rfl 11 (by decide) wd_807 rfl (ty := .int) rfl rfl rfl (Nat.le_of_ble_eq_true rfl) (lyM C.z 6 _ _ 0) (lyM C.z 6 _ _ 0) (fun p e hp q => by
    rw [lyM C.z] at q ⊢; rw [← q]
    match p, hp with
    | 0, hp => exact absurd rfl hp
    | n + 1, _ => rfl) hM hd kk
theorem gf_X5_341 {v : Int32} (C : Ok 2 Z E cc nL RX5 ret h) (hd : decode cc pc = .ok (.getfield 341, 3)) (hv : M 6 0 = v) (kk : GT Z E nL fin (pc + 3) lv (.int v :: rest) M N t) : GT Z E nL fin pc lv (.ref (zA Z 6 0) :: rest) M N t := by
  subst hv; exact r_get C us_X5 (ci := 5) rfl 5 (by decide) wd_801 (lyM C.z 6 _ _ 0) rfl hd kk
theorem pf_X5_341 {v : Int32} (C : Ok 2 Z E cc nL RX5 ret h) (hd : decode cc pc = .ok (.putfield 341, 3)) (hz : v = 0 ∨ v = 1) (hM : wM M 6 0 v = M') (kk : GT Z E nL fin (pc + 3) lv rest M' N t) : GT Z E nL fin pc lv (.int v :: .ref (zA Z 6 0) :: rest) M N t :=
  r_put C us_X5 tyX5 tyX5_ok nmX5 (ci := 5) rfl 5 (by decide) wd_801 rfl (ty := .boolean) rfl (by rcases hz with rfl | rfl <;> rfl) (by rcases hz with rfl | rfl <;> rfl) (Nat.le_of_ble_eq_true rfl) (lyM C.z 6 _ _ 0) (lyM C.z 6 _ _ 0) (fun p e hp q => by
    rw [lyM C.z] at q ⊢; rw [← q]
    match p, hp with
    | 0, hp => exact absurd rfl hp
    | n + 1, _ => rfl) hM hd kk
end FROWS
