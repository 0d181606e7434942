-- W ColourLinkerModel.lattice(II)V
def f_Mo_lattice_409 (h0 : Nat) (μ : mM) : Option (mM) :=
  some (μ)

def f_Mo_lattice_278 (h0 : Nat) (kx409 : mM → Option (mM)) : Nat → mM → Int32 → Int32 → Int32 → Int32 → Int32 → Int32 → Int32 → Int32 → Int32 → Option (mM)
  | 0, _, _, _, _, _, _, _, _, _, _ => none
  | n + 1, μ, x1, x2, x4, x5, x6, x7, x8, x9, x10 =>
  if (3 : Int32) ≤ x10 then
    kx409 μ
  else
    (mfA μ (some h0) [11] 19).bind fun v26 =>
    (mgJ μ (v26) x5).bind fun v27 =>
    ((mrc μ (some h0) 11).bind fun a => f_Mo_node μ a x1 x2 x4 x10).bind fun q28 =>
    (mfA μ (some h0) [11] 19).bind fun v29 =>
    (mgJ μ (v29) x5).bind fun v30 =>
    (mfA μ (some h0) [11] 19).bind fun v31 =>
    (mgJ μ (v31) x7).bind fun v32 =>
    ((mrc μ (some h0) 11).bind fun a => f_Mo_node μ a x1 x2 x8 x10).bind fun q33 =>
    (mfA μ (some h0) [11] 19).bind fun v34 =>
    (mgJ μ (v34) x7).bind fun v35 =>
    (mfA μ (some h0) [11] 19).bind fun v36 =>
    (mgJ μ (v36) x6).bind fun v37 =>
    ((mrc μ (some h0) 11).bind fun a => f_Mo_node μ a x1 x2 x9 x10).bind fun q38 =>
    (mfA μ (some h0) [11] 19).bind fun v39 =>
    (mgJ μ (v39) x6).bind fun v40 =>
    ((mrc μ (some h0) 11).bind fun a => f_Mo_node μ a x1 x2 (x4 + (21 : Int32)) x10).bind fun q41 =>
    (mfA μ (some h0) [11] 18).bind fun v42 =>
    (f_Mo_near μ (((((65535 : Int64) - v27) * q28) + ((v30 - v32) * q33)) + (((v35 - v37) * q38) + (v40 * q41))) (65535 : Int64)).bind fun q43 =>
    (msJ μ (v42) x10 q43).bind fun m44 =>
    f_Mo_lattice_278 h0 kx409 n m44 x1 x2 x4 x5 x6 x7 x8 x9 (x10 + (1 : Int32))

def f_Mo_lattice_272 (h0 : Nat) (μ : mM) (x1 : Int32) (x2 : Int32) (x4 : Int32) (x5 : Int32) (x6 : Int32) (x7 : Int32) (x8 : Int32) (s0 : Int32) (s1 : Int32) : Option (mM) :=
  f_Mo_lattice_278 h0 (fun μ => f_Mo_lattice_409 h0 μ) 4096 μ x1 x2 x4 x5 x6 x7 x8 (s0 + s1) (0 : Int32)

def f_Mo_lattice_246 (h0 : Nat) (μ : mM) (x1 : Int32) (x2 : Int32) (x4 : Int32) (x5 : Int32) (x6 : Int32) (x7 : Int32) (s0 : Int32) (s1 : Int32) : Option (mM) :=
  if x7 = 0 then
    f_Mo_lattice_272 h0 μ x1 x2 x4 x5 x6 x7 (s0 + s1) (s0 + s1) (16 : Int32)
  else
    if x7 = (1 : Int32) then
      f_Mo_lattice_272 h0 μ x1 x2 x4 x5 x6 x7 (s0 + s1) (s0 + s1) (4 : Int32)
    else
      f_Mo_lattice_272 h0 μ x1 x2 x4 x5 x6 x7 (s0 + s1) (s0 + s1) (1 : Int32)

def f_Mo_lattice_212 (h0 : Nat) (μ : mM) (x1 : Int32) (x2 : Int32) (x4 : Int32) (x5 : Int32) (s0 : Int32) : Option (mM) :=
  if x5 = 0 then
    f_Mo_lattice_246 h0 μ x1 x2 x4 x5 s0 (((3 : Int32) - x5) - s0) x4 (16 : Int32)
  else
    if x5 = (1 : Int32) then
      f_Mo_lattice_246 h0 μ x1 x2 x4 x5 s0 (((3 : Int32) - x5) - s0) x4 (4 : Int32)
    else
      f_Mo_lattice_246 h0 μ x1 x2 x4 x5 s0 (((3 : Int32) - x5) - s0) x4 (1 : Int32)

def f_Mo_lattice_153 (h0 : Nat) (μ : mM) (x1 : Int32) (x2 : Int32) (x4 : Int32) (s0 : Int32) : Option (mM) :=
  if s0 = (2 : Int32) then
    (mfA μ (some h0) [11] 19).bind fun v22 =>
    (mgJ μ (v22) (0 : Int32)).bind fun v23 =>
    (mfA μ (some h0) [11] 19).bind fun v24 =>
    (mgJ μ (v24) (1 : Int32)).bind fun v25 =>
    if v25 < v23 then
      f_Mo_lattice_212 h0 μ x1 x2 x4 s0 (1 : Int32)
    else
      f_Mo_lattice_212 h0 μ x1 x2 x4 s0 (0 : Int32)
  else
    (mfA μ (some h0) [11] 19).bind fun v18 =>
    (mgJ μ (v18) (2 : Int32)).bind fun v19 =>
    (mfA μ (some h0) [11] 19).bind fun v20 =>
    (mgJ μ (v20) ((1 : Int32) - s0)).bind fun v21 =>
    if v21 < v19 then
      f_Mo_lattice_212 h0 μ x1 x2 x4 s0 ((1 : Int32) - s0)
    else
      f_Mo_lattice_212 h0 μ x1 x2 x4 s0 (2 : Int32)

def f_Mo_lattice_132 (h0 : Nat) (μ : mM) (x1 : Int32) (x2 : Int32) (x4 : Int32) : Option (mM) :=
  (mfA μ (some h0) [11] 19).bind fun v14 =>
  (mgJ μ (v14) (1 : Int32)).bind fun v15 =>
  (mfA μ (some h0) [11] 19).bind fun v16 =>
  (mgJ μ (v16) (2 : Int32)).bind fun v17 =>
  if v15 < v17 then
    f_Mo_lattice_153 h0 μ x1 x2 x4 (2 : Int32)
  else
    f_Mo_lattice_153 h0 μ x1 x2 x4 (1 : Int32)

def f_Mo_lattice_96 (h0 : Nat) (μ : mM) (x1 : Int32) (x2 : Int32) (x4 : Int32) : Option (mM) :=
  (mfA μ (some h0) [11] 19).bind fun v6 =>
  (mgJ μ (v6) (0 : Int32)).bind fun v7 =>
  (mfA μ (some h0) [11] 19).bind fun v8 =>
  (mgJ μ (v8) (1 : Int32)).bind fun v9 =>
  if v7 < v9 then
    f_Mo_lattice_132 h0 μ x1 x2 x4
  else
    (mfA μ (some h0) [11] 19).bind fun v10 =>
    (mgJ μ (v10) (0 : Int32)).bind fun v11 =>
    (mfA μ (some h0) [11] 19).bind fun v12 =>
    (mgJ μ (v12) (2 : Int32)).bind fun v13 =>
    if v11 < v13 then
      f_Mo_lattice_132 h0 μ x1 x2 x4
    else
      f_Mo_lattice_153 h0 μ x1 x2 x4 (0 : Int32)

def f_Mo_lattice_62 (h0 : Nat) (k : mM → Int32 → Int32 → Int32 → Int32 → Int32 → Option (mM)) (kx96 : mM → Int32 → Int32 → Int32 → Option (mM)) (μ : mM) (x1 : Int32) (x2 : Int32) (x3 : Int32) (x4 : Int32) (x5 : Int32) (x6 : Int64) (s0 : Int32) : Option (mM) :=
  (mfA μ (some h0) [11] 19).bind fun v4 =>
  (msJ μ (v4) x5 (x6 - ((65535 : Int64) * (s0).toInt64))).bind fun m5 =>
  k m5 x1 x2 x3 (((4 : Int32) * x4) + s0) (x5 + (1 : Int32))

def f_Mo_lattice_15 (h0 : Nat) (kx96 : mM → Int32 → Int32 → Int32 → Option (mM)) : Nat → mM → Int32 → Int32 → Int32 → Int32 → Int32 → Option (mM)
  | 0, _, _, _, _, _, _ => none
  | n + 1, μ, x1, x2, x3, x4, x5 =>
  if (3 : Int32) ≤ x5 then
    kx96 μ x1 x2 x4
  else
    (mfA μ (some h0) [11] 19).bind fun v2 =>
    (mgJ μ (v2) x5).bind fun v3 =>
    if ((x3 - (2 : Int32))).toInt64 ≤ ((v3 * ((x3 - (1 : Int32))).toInt64) / (65535 : Int64)) then
      f_Mo_lattice_62 h0 (f_Mo_lattice_15 h0 kx96 n) kx96 μ x1 x2 x3 x4 x5 (v3 * ((x3 - (1 : Int32))).toInt64) (x3 - (2 : Int32))
    else
      f_Mo_lattice_62 h0 (f_Mo_lattice_15 h0 kx96 n) kx96 μ x1 x2 x3 x4 x5 (v3 * ((x3 - (1 : Int32))).toInt64) ((((v3 * ((x3 - (1 : Int32))).toInt64) / (65535 : Int64))).toInt32)

def f_Mo_lattice (h0 : Nat) (μ : mM) (x1 : Int32) (x2 : Int32) : Option (mM) :=
  ((mrc μ (some h0) 11).bind fun a => f_Mo_part μ a x1 (x2 + (1 : Int32))).bind fun q1 =>
  f_Mo_lattice_15 h0 (fun μ y1 y2 y4 => f_Mo_lattice_96 h0 μ y1 y2 y4) 4096 μ x1 x2 q1 (0 : Int32) (0 : Int32)

-- W ColourLinkerModel.spread(I)V
def f_Mo_spread_64 (h0 : Nat) (μ : mM) : Option (mM) :=
  some (μ)

def f_Mo_spread_57 (h0 : Nat) (k : mM → Int32 → Int32 → Option (mM)) (kx64 : mM → Option (mM)) (μ : mM) (x1 : Int32) (x2 : Int32) (s0 : Option Nat) (s1 : Int32) (s2 : Int64) : Option (mM) :=
  (msJ μ (s0) s1 s2).bind fun m9 =>
  k m9 x1 (x2 + (1 : Int32))

def f_Mo_spread_2 (h0 : Nat) (kx64 : mM → Option (mM)) : Nat → mM → Int32 → Int32 → Option (mM)
  | 0, _, _, _ => none
  | n + 1, μ, x1, x2 =>
  if (3 : Int32) ≤ x2 then
    kx64 μ
  else
    (mfA μ (some h0) [11] 18).bind fun v1 =>
    ((mrc μ (some h0) 11).bind fun a => f_Mo_lab μ a x1).bind fun q2 =>
    if q2 = 0 then
      (f_Mo_point μ x2).bind fun q5 =>
      (mfA μ (some h0) [11] 19).bind fun v6 =>
      (mgJ μ (v6) (0 : Int32)).bind fun v7 =>
      (f_Mo_near μ ((q5).toInt64 * v7) (65535 : Int64)).bind fun q8 =>
      f_Mo_spread_57 h0 (f_Mo_spread_2 h0 kx64 n) kx64 μ x1 x2 v1 x2 q8
    else
      if x2 = 0 then
        (mfA μ (some h0) [11] 19).bind fun v3 =>
        (mgJ μ (v3) (0 : Int32)).bind fun v4 =>
        f_Mo_spread_57 h0 (f_Mo_spread_2 h0 kx64 n) kx64 μ x1 x2 v1 x2 v4
      else
        f_Mo_spread_57 h0 (f_Mo_spread_2 h0 kx64 n) kx64 μ x1 x2 v1 x2 (32896 : Int64)

def f_Mo_spread (h0 : Nat) (μ : mM) (x1 : Int32) : Option (mM) :=
  f_Mo_spread_2 h0 (fun μ => f_Mo_spread_64 h0 μ) 4096 μ x1 (0 : Int32)

-- R ColourLinkerModel.root(JJ)J
def f_Mo_root_97 (μ : mM) (x6 : Int64) : Option (Int64) :=
  some (x6)

def f_Mo_root_84 (μ : mM) (k : Int64 → Int64 → Int64 → Option (Int64)) (kx97 : Int64 → Option (Int64)) (x4 : Int64) (x8 : Int64) (s0 : Int64) : Option (Int64) :=
  k x4 s0 (x8 / (2 : Int64))

def f_Mo_root_45 (μ : mM) (kx97 : Int64 → Option (Int64)) : Nat → Int64 → Int64 → Int64 → Option (Int64)
  | 0, _, _, _ => none
  | n + 1, x4, x6, x8 =>
  if x8 ≤ (0 : Int64) then
    kx97 x6
  else
    if ((134217728 : Int64) * x4) < (((x6 + x8) * (x6 + x8)) * (x6 + x8)) then
      f_Mo_root_84 μ (f_Mo_root_45 μ kx97 n) kx97 x4 x8 x6
    else
      f_Mo_root_84 μ (f_Mo_root_45 μ kx97 n) kx97 x4 x8 (x6 + x8)

def f_Mo_root (μ : mM) (x0 : Int64) (x2 : Int64) : Option (Int64) :=
  (f_Mo_near μ ((32768 : Int64) * x0) x2).bind fun q1 =>
  if (290 : Int64) < q1 then
    f_Mo_root_45 μ (fun y6 => f_Mo_root_97 μ y6) 4096 q1 (0 : Int64) (16384 : Int64)
  else
    (f_Mo_near μ ((841 : Int64) * q1) (216 : Int64)).bind fun q2 =>
    some ((q2 + (2260 : Int64)))

