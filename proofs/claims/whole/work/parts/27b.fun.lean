-- W ColourLinkerModel.curves(IZ)V
def f_Mo_curves_86 (h0 : Nat) (μ : mM) : Option (mM) :=
  some (μ)

def f_Mo_curves_79 (h0 : Nat) (k : mM → Int32 → Int32 → Int32 → Int32 → Option (mM)) (kx86 : mM → Option (mM)) (μ : mM) (x1 : Int32) (x2 : Int32) (x3 : Int32) (x4 : Int32) (s0 : Option Nat) (s1 : Int32) (s2 : Int64) : Option (mM) :=
  (msJ μ (s0) s1 s2).bind fun m9 =>
  k m9 x1 x2 x3 (x4 + (1 : Int32))

def f_Mo_curves_36 (h0 : Nat) (k : mM → Int32 → Int32 → Int32 → Int32 → Option (mM)) (kx86 : mM → Option (mM)) (μ : mM) (x1 : Int32) (x2 : Int32) (x3 : Int32) (x4 : Int32) (s0 : Int32) : Option (mM) :=
  (mfA μ (some h0) [11] 18).bind fun v2 =>
  if x2 = 0 then
    (mfA μ (some h0) [11] 19).bind fun v3 =>
    (mgJ μ (v3) x4).bind fun v4 =>
    ((mrc μ (some h0) 11).bind fun a => f_Mo_value μ a x1 s0 v4).bind fun q5 =>
    f_Mo_curves_79 h0 k kx86 μ x1 x2 x3 x4 v2 x4 q5
  else
    (mfA μ (some h0) [11] 19).bind fun v6 =>
    (mgJ μ (v6) x4).bind fun v7 =>
    ((mrc μ (some h0) 11).bind fun a => f_Mo_inverse μ a x1 s0 v7).bind fun q8 =>
    f_Mo_curves_79 h0 k kx86 μ x1 x2 x3 x4 v2 x4 q8

def f_Mo_curves_17 (h0 : Nat) (kx86 : mM → Option (mM)) : Nat → mM → Int32 → Int32 → Int32 → Int32 → Option (mM)
  | 0, _, _, _, _, _ => none
  | n + 1, μ, x1, x2, x3, x4 =>
  if x3 ≤ x4 then
    kx86 μ
  else
    if x3 = (1 : Int32) then
      f_Mo_curves_36 h0 (f_Mo_curves_17 h0 kx86 n) kx86 μ x1 x2 x3 x4 (1 : Int32)
    else
      f_Mo_curves_36 h0 (f_Mo_curves_17 h0 kx86 n) kx86 μ x1 x2 x3 x4 ((2 : Int32) + x4)

def f_Mo_curves_13 (h0 : Nat) (μ : mM) (x1 : Int32) (x2 : Int32) (s0 : Int32) : Option (mM) :=
  f_Mo_curves_17 h0 (fun μ => f_Mo_curves_86 h0 μ) 4096 μ x1 x2 s0 (0 : Int32)

def f_Mo_curves (h0 : Nat) (μ : mM) (x1 : Int32) (x2 : Int32) : Option (mM) :=
  ((mrc μ (some h0) 11).bind fun a => f_Mo_single μ a x1).bind fun q1 =>
  if q1 = 0 then
    f_Mo_curves_13 h0 μ x1 x2 (3 : Int32)
  else
    f_Mo_curves_13 h0 μ x1 x2 (1 : Int32)

-- W ColourLinkerModel.matrix(I)V
def f_Mo_matrix_81 (h0 : Nat) (μ : mM) : Option (mM) :=
  some (μ)

def f_Mo_matrix_7 (h0 : Nat) (kx81 : mM → Option (mM)) : Nat → mM → Int32 → Option (mM)
  | 0, _, _ => none
  | n + 1, μ, x2 =>
  if (3 : Int32) ≤ x2 then
    kx81 μ
  else
    (mfA μ (some h0) [11] 18).bind fun v2 =>
    (mfA μ (some h0) [11] 20).bind fun v3 =>
    (mgJ μ (v3) ((3 : Int32) * x2)).bind fun v4 =>
    (mfA μ (some h0) [11] 19).bind fun v5 =>
    (mgJ μ (v5) (0 : Int32)).bind fun v6 =>
    (mfA μ (some h0) [11] 20).bind fun v7 =>
    (mgJ μ (v7) (((3 : Int32) * x2) + (1 : Int32))).bind fun v8 =>
    (mfA μ (some h0) [11] 19).bind fun v9 =>
    (mgJ μ (v9) (1 : Int32)).bind fun v10 =>
    (mfA μ (some h0) [11] 20).bind fun v11 =>
    (mgJ μ (v11) (((3 : Int32) * x2) + (2 : Int32))).bind fun v12 =>
    (mfA μ (some h0) [11] 19).bind fun v13 =>
    (mgJ μ (v13) (2 : Int32)).bind fun v14 =>
    (f_Mo_clipNear μ (((v4 * v6) + (v8 * v10)) + (v12 * v14)) (4096 : Int64)).bind fun q15 =>
    (msJ μ (v2) x2 q15).bind fun m16 =>
    f_Mo_matrix_7 h0 kx81 n m16 (x2 + (1 : Int32))

def f_Mo_matrix (h0 : Nat) (μ : mM) (x1 : Int32) : Option (mM) :=
  ((mrc μ (some h0) 11).bind fun a => f_Mo_takeMatrix a μ x1).bind fun q1 =>
  f_Mo_matrix_7 h0 (fun μ => f_Mo_matrix_81 h0 μ) 4096 q1 (0 : Int32)

-- R ColourLinkerModel.node(IIII)J
def f_Mo_node (μ : mM) (h0 : Nat) (x1 : Int32) (x2 : Int32) (x3 : Int32) (x4 : Int32) : Option (Int64) :=
  ((mrc μ (some h0) 11).bind fun a => f_Mo_part μ a x1 (x2 + (1 : Int32))).bind fun q1 =>
  ((mrc μ (some h0) 11).bind fun a => f_Mo_part μ a x1 (((x2 + (2 : Int32)) + ((3 : Int32) * ((((((x3 >>> ((4 : Int32) &&& 31)) &&& (3 : Int32)) * q1) + ((x3 >>> ((2 : Int32) &&& 31)) &&& (3 : Int32))) * q1) + (x3 &&& (3 : Int32))))) + x4)).bind fun q2 =>
  some (((257 : Int64) * (q2).toInt64))

