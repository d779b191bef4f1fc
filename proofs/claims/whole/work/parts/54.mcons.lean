/-! ===== PURE: the reference's constructor, step by step (written by gen_mcons.py) ===== -/
def dT0 (M : Mem) (d : Nat) : Mem := ms_i (ms_i (ms_i (ms_n M 8 0) d 3 20) d 4 80) d 5 50
def dT1 (M : Mem) (d : Nat) : Mem := ms_r (ms_n (dT0 M d) 9 80) d 7 (some (d + 1))
def dT2 (M : Mem) (d : Nat) : Mem := ms_r (ms_n (dT1 M d) 9 80) d 8 (some (d + 2))
def dT3 (M : Mem) (d : Nat) : Mem := ms_r (ms_n (dT2 M d) 9 80) d 9 (some (d + 3))
def dT4 (M : Mem) (d : Nat) : Mem := ms_r (ms_n (dT3 M d) 9 80) d 10 (some (d + 4))
def dT5 (M : Mem) (d : Nat) : Mem := ms_r (ms_n (dT4 M d) 9 80) d 11 (some (d + 5))
def dT6 (M : Mem) (d : Nat) : Mem := ms_r (ms_n (dT5 M d) 10 80) d 12 (some (d + 6))
def dT7 (M : Mem) (d : Nat) : Mem := ms_r (ms_n (dT6 M d) 10 80) d 13 (some (d + 7))
def dT8 (M : Mem) (d : Nat) : Mem := ms_r (ms_n (dT7 M d) 9 6) d 15 (some (d + 8))
def dT9 (M : Mem) (d : Nat) : Mem := ms_r (ms_n (dT8 M d) 9 6) d 16 (some (d + 9))
def dT10 (M : Mem) (d : Nat) : Mem := ms_r (ms_n (dT9 M d) 9 6) d 17 (some (d + 10))
def dT11 (M : Mem) (d : Nat) : Mem := ms_r (ms_n (dT10 M d) 9 1280) d 30 (some (d + 11))
def dT12 (M : Mem) (d : Nat) : Mem := ms_r (ms_n (dT11 M d) 9 20) d 31 (some (d + 12))
def dT13 (M : Mem) (d : Nat) : Mem := ms_r (ms_n (dT12 M d) 9 40) d 33 (some (d + 13))
def dT14 (M : Mem) (d : Nat) : Mem := ms_r (ms_n (dT13 M d) 9 40) d 34 (some (d + 14))
def dT15 (M : Mem) (d : Nat) : Mem := ms_r (ms_n (dT14 M d) 9 40) d 35 (some (d + 15))
def dT16 (M : Mem) (d : Nat) : Mem := ms_r (ms_n (dT15 M d) 9 40) d 36 (some (d + 16))
theorem xd_T0 {M : Mem} {d : Nat} (hd : mm_x M = d) : mm_x (dT0 M d) = d + 1 := by simp only [dT0, xi_, xn_, hd]
theorem kd_T0 {M : Mem} {d : Nat} (hd : mm_x M = d) (q : Nat) : (dT0 M d).1 q = if q = d then 8 else M.1 q := by simp only [dT0, ki_, kn_, hd]
theorem xd_T1 {M : Mem} {d : Nat} (hd : mm_x M = d) : mm_x (dT1 M d) = d + 2 := by simp only [dT1, xr_, xn_, xd_T0 hd]
theorem kd_T1 {M : Mem} {d : Nat} (hd : mm_x M = d) (q : Nat) : (dT1 M d).1 q = if q = d + 1 then 9 else (dT0 M d).1 q := by simp only [dT1, kr_, kn_, xd_T0 hd]
theorem xd_T2 {M : Mem} {d : Nat} (hd : mm_x M = d) : mm_x (dT2 M d) = d + 3 := by simp only [dT2, xr_, xn_, xd_T1 hd]
theorem kd_T2 {M : Mem} {d : Nat} (hd : mm_x M = d) (q : Nat) : (dT2 M d).1 q = if q = d + 2 then 9 else (dT1 M d).1 q := by simp only [dT2, kr_, kn_, xd_T1 hd]
theorem xd_T3 {M : Mem} {d : Nat} (hd : mm_x M = d) : mm_x (dT3 M d) = d + 4 := by simp only [dT3, xr_, xn_, xd_T2 hd]
theorem kd_T3 {M : Mem} {d : Nat} (hd : mm_x M = d) (q : Nat) : (dT3 M d).1 q = if q = d + 3 then 9 else (dT2 M d).1 q := by simp only [dT3, kr_, kn_, xd_T2 hd]
theorem xd_T4 {M : Mem} {d : Nat} (hd : mm_x M = d) : mm_x (dT4 M d) = d + 5 := by simp only [dT4, xr_, xn_, xd_T3 hd]
theorem kd_T4 {M : Mem} {d : Nat} (hd : mm_x M = d) (q : Nat) : (dT4 M d).1 q = if q = d + 4 then 9 else (dT3 M d).1 q := by simp only [dT4, kr_, kn_, xd_T3 hd]
theorem xd_T5 {M : Mem} {d : Nat} (hd : mm_x M = d) : mm_x (dT5 M d) = d + 6 := by simp only [dT5, xr_, xn_, xd_T4 hd]
theorem kd_T5 {M : Mem} {d : Nat} (hd : mm_x M = d) (q : Nat) : (dT5 M d).1 q = if q = d + 5 then 9 else (dT4 M d).1 q := by simp only [dT5, kr_, kn_, xd_T4 hd]
theorem xd_T6 {M : Mem} {d : Nat} (hd : mm_x M = d) : mm_x (dT6 M d) = d + 7 := by simp only [dT6, xr_, xn_, xd_T5 hd]
theorem kd_T6 {M : Mem} {d : Nat} (hd : mm_x M = d) (q : Nat) : (dT6 M d).1 q = if q = d + 6 then 10 else (dT5 M d).1 q := by simp only [dT6, kr_, kn_, xd_T5 hd]
theorem xd_T7 {M : Mem} {d : Nat} (hd : mm_x M = d) : mm_x (dT7 M d) = d + 8 := by simp only [dT7, xr_, xn_, xd_T6 hd]
theorem kd_T7 {M : Mem} {d : Nat} (hd : mm_x M = d) (q : Nat) : (dT7 M d).1 q = if q = d + 7 then 10 else (dT6 M d).1 q := by simp only [dT7, kr_, kn_, xd_T6 hd]
theorem xd_T8 {M : Mem} {d : Nat} (hd : mm_x M = d) : mm_x (dT8 M d) = d + 9 := by simp only [dT8, xr_, xn_, xd_T7 hd]
theorem kd_T8 {M : Mem} {d : Nat} (hd : mm_x M = d) (q : Nat) : (dT8 M d).1 q = if q = d + 8 then 9 else (dT7 M d).1 q := by simp only [dT8, kr_, kn_, xd_T7 hd]
theorem xd_T9 {M : Mem} {d : Nat} (hd : mm_x M = d) : mm_x (dT9 M d) = d + 10 := by simp only [dT9, xr_, xn_, xd_T8 hd]
theorem kd_T9 {M : Mem} {d : Nat} (hd : mm_x M = d) (q : Nat) : (dT9 M d).1 q = if q = d + 9 then 9 else (dT8 M d).1 q := by simp only [dT9, kr_, kn_, xd_T8 hd]
theorem xd_T10 {M : Mem} {d : Nat} (hd : mm_x M = d) : mm_x (dT10 M d) = d + 11 := by simp only [dT10, xr_, xn_, xd_T9 hd]
theorem kd_T10 {M : Mem} {d : Nat} (hd : mm_x M = d) (q : Nat) : (dT10 M d).1 q = if q = d + 10 then 9 else (dT9 M d).1 q := by simp only [dT10, kr_, kn_, xd_T9 hd]
theorem xd_T11 {M : Mem} {d : Nat} (hd : mm_x M = d) : mm_x (dT11 M d) = d + 12 := by simp only [dT11, xr_, xn_, xd_T10 hd]
theorem kd_T11 {M : Mem} {d : Nat} (hd : mm_x M = d) (q : Nat) : (dT11 M d).1 q = if q = d + 11 then 9 else (dT10 M d).1 q := by simp only [dT11, kr_, kn_, xd_T10 hd]
theorem xd_T12 {M : Mem} {d : Nat} (hd : mm_x M = d) : mm_x (dT12 M d) = d + 13 := by simp only [dT12, xr_, xn_, xd_T11 hd]
theorem kd_T12 {M : Mem} {d : Nat} (hd : mm_x M = d) (q : Nat) : (dT12 M d).1 q = if q = d + 12 then 9 else (dT11 M d).1 q := by simp only [dT12, kr_, kn_, xd_T11 hd]
theorem xd_T13 {M : Mem} {d : Nat} (hd : mm_x M = d) : mm_x (dT13 M d) = d + 14 := by simp only [dT13, xr_, xn_, xd_T12 hd]
theorem kd_T13 {M : Mem} {d : Nat} (hd : mm_x M = d) (q : Nat) : (dT13 M d).1 q = if q = d + 13 then 9 else (dT12 M d).1 q := by simp only [dT13, kr_, kn_, xd_T12 hd]
theorem xd_T14 {M : Mem} {d : Nat} (hd : mm_x M = d) : mm_x (dT14 M d) = d + 15 := by simp only [dT14, xr_, xn_, xd_T13 hd]
theorem kd_T14 {M : Mem} {d : Nat} (hd : mm_x M = d) (q : Nat) : (dT14 M d).1 q = if q = d + 14 then 9 else (dT13 M d).1 q := by simp only [dT14, kr_, kn_, xd_T13 hd]
theorem xd_T15 {M : Mem} {d : Nat} (hd : mm_x M = d) : mm_x (dT15 M d) = d + 16 := by simp only [dT15, xr_, xn_, xd_T14 hd]
theorem kd_T15 {M : Mem} {d : Nat} (hd : mm_x M = d) (q : Nat) : (dT15 M d).1 q = if q = d + 15 then 9 else (dT14 M d).1 q := by simp only [dT15, kr_, kn_, xd_T14 hd]
theorem xd_T16 {M : Mem} {d : Nat} (hd : mm_x M = d) : mm_x (dT16 M d) = d + 17 := by simp only [dT16, xr_, xn_, xd_T15 hd]
theorem kd_T16 {M : Mem} {d : Nat} (hd : mm_x M = d) (q : Nat) : (dT16 M d).1 q = if q = d + 16 then 9 else (dT15 M d).1 q := by simp only [dT16, kr_, kn_, xd_T15 hd]
theorem e_X8_init {M : Mem} {d : Nat} (hd : mm_x M = d) : f_X8_init d (ms_n M 8 0) = some (dT16 M d) := by
  have k0 : (ms_n M 8 0).1 d = 8 := by rw [kn_, hd, if_pos rfl]
  have k01 : (ms_i (ms_n M 8 0) d 3 20).1 d = 8 := k0
  have k02 : (ms_i (ms_i (ms_n M 8 0) d 3 20) d 4 80).1 d = 8 := k0
  have kk0 : (dT0 M d).1 d = 8 := k0
  have s0 : ms_i (ms_i (ms_i (ms_n M 8 0) d 3 20) d 4 80) d 5 50 = dT0 M d := rfl
  have k1 : (ms_n (dT0 M d) 9 80).1 d = 8 := by rw [kn_, xd_T0 hd, if_neg (by omega)]; exact kk0
  have kk1 : (dT1 M d).1 d = 8 := k1
  have s1 : ms_r (ms_n (dT0 M d) 9 80) d 7 (some (d + 1)) = dT1 M d := rfl
  have k2 : (ms_n (dT1 M d) 9 80).1 d = 8 := by rw [kn_, xd_T1 hd, if_neg (by omega)]; exact kk1
  have kk2 : (dT2 M d).1 d = 8 := k2
  have s2 : ms_r (ms_n (dT1 M d) 9 80) d 8 (some (d + 2)) = dT2 M d := rfl
  have k3 : (ms_n (dT2 M d) 9 80).1 d = 8 := by rw [kn_, xd_T2 hd, if_neg (by omega)]; exact kk2
  have kk3 : (dT3 M d).1 d = 8 := k3
  have s3 : ms_r (ms_n (dT2 M d) 9 80) d 9 (some (d + 3)) = dT3 M d := rfl
  have k4 : (ms_n (dT3 M d) 9 80).1 d = 8 := by rw [kn_, xd_T3 hd, if_neg (by omega)]; exact kk3
  have kk4 : (dT4 M d).1 d = 8 := k4
  have s4 : ms_r (ms_n (dT3 M d) 9 80) d 10 (some (d + 4)) = dT4 M d := rfl
  have k5 : (ms_n (dT4 M d) 9 80).1 d = 8 := by rw [kn_, xd_T4 hd, if_neg (by omega)]; exact kk4
  have kk5 : (dT5 M d).1 d = 8 := k5
  have s5 : ms_r (ms_n (dT4 M d) 9 80) d 11 (some (d + 5)) = dT5 M d := rfl
  have k6 : (ms_n (dT5 M d) 10 80).1 d = 8 := by rw [kn_, xd_T5 hd, if_neg (by omega)]; exact kk5
  have kk6 : (dT6 M d).1 d = 8 := k6
  have s6 : ms_r (ms_n (dT5 M d) 10 80) d 12 (some (d + 6)) = dT6 M d := rfl
  have k7 : (ms_n (dT6 M d) 10 80).1 d = 8 := by rw [kn_, xd_T6 hd, if_neg (by omega)]; exact kk6
  have kk7 : (dT7 M d).1 d = 8 := k7
  have s7 : ms_r (ms_n (dT6 M d) 10 80) d 13 (some (d + 7)) = dT7 M d := rfl
  have k8 : (ms_n (dT7 M d) 9 6).1 d = 8 := by rw [kn_, xd_T7 hd, if_neg (by omega)]; exact kk7
  have kk8 : (dT8 M d).1 d = 8 := k8
  have s8 : ms_r (ms_n (dT7 M d) 9 6) d 15 (some (d + 8)) = dT8 M d := rfl
  have k9 : (ms_n (dT8 M d) 9 6).1 d = 8 := by rw [kn_, xd_T8 hd, if_neg (by omega)]; exact kk8
  have kk9 : (dT9 M d).1 d = 8 := k9
  have s9 : ms_r (ms_n (dT8 M d) 9 6) d 16 (some (d + 9)) = dT9 M d := rfl
  have k10 : (ms_n (dT9 M d) 9 6).1 d = 8 := by rw [kn_, xd_T9 hd, if_neg (by omega)]; exact kk9
  have kk10 : (dT10 M d).1 d = 8 := k10
  have s10 : ms_r (ms_n (dT9 M d) 9 6) d 17 (some (d + 10)) = dT10 M d := rfl
  have k11 : (ms_n (dT10 M d) 9 1280).1 d = 8 := by rw [kn_, xd_T10 hd, if_neg (by omega)]; exact kk10
  have kk11 : (dT11 M d).1 d = 8 := k11
  have s11 : ms_r (ms_n (dT10 M d) 9 1280) d 30 (some (d + 11)) = dT11 M d := rfl
  have k12 : (ms_n (dT11 M d) 9 20).1 d = 8 := by rw [kn_, xd_T11 hd, if_neg (by omega)]; exact kk11
  have kk12 : (dT12 M d).1 d = 8 := k12
  have s12 : ms_r (ms_n (dT11 M d) 9 20) d 31 (some (d + 12)) = dT12 M d := rfl
  have k13 : (ms_n (dT12 M d) 9 40).1 d = 8 := by rw [kn_, xd_T12 hd, if_neg (by omega)]; exact kk12
  have kk13 : (dT13 M d).1 d = 8 := k13
  have s13 : ms_r (ms_n (dT12 M d) 9 40) d 33 (some (d + 13)) = dT13 M d := rfl
  have k14 : (ms_n (dT13 M d) 9 40).1 d = 8 := by rw [kn_, xd_T13 hd, if_neg (by omega)]; exact kk13
  have kk14 : (dT14 M d).1 d = 8 := k14
  have s14 : ms_r (ms_n (dT13 M d) 9 40) d 34 (some (d + 14)) = dT14 M d := rfl
  have k15 : (ms_n (dT14 M d) 9 40).1 d = 8 := by rw [kn_, xd_T14 hd, if_neg (by omega)]; exact kk14
  have kk15 : (dT15 M d).1 d = 8 := k15
  have s15 : ms_r (ms_n (dT14 M d) 9 40) d 35 (some (d + 15)) = dT15 M d := rfl
  have k16 : (ms_n (dT15 M d) 9 40).1 d = 8 := by rw [kn_, xd_T15 hd, if_neg (by omega)]; exact kk15
  have kk16 : (dT16 M d).1 d = 8 := k16
  have s16 : ms_r (ms_n (dT15 M d) 9 40) d 36 (some (d + 16)) = dT16 M d := rfl
  simp only [f_X8_init, gd, lt_, ↓reduceIte, k0, k01, k02, s0, k1, s1, xd_T0 hd, k2, s2, xd_T1 hd, k3, s3, xd_T2 hd, k4, s4, xd_T3 hd, k5, s5, xd_T4 hd, k6, s6, xd_T5 hd, k7, s7, xd_T6 hd, k8, s8, xd_T7 hd, k9, s9, xd_T8 hd, k10, s10, xd_T9 hd, k11, s11, xd_T10 hd, k12, s12, xd_T11 hd, k13, s13, xd_T12 hd, k14, s14, xd_T13 hd, k15, s15, xd_T14 hd, k16, s16, xd_T15 hd]
