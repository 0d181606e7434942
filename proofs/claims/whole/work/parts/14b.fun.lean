-- N ColourLinker$Matrix.readFactors([II)[J
def f_Matrix_readFactors_54 (μ : mM) (z w : Nat) (x2 : Option Nat) : Option ((Option Nat) × mM × Nat × Nat) :=
  some (x2, μ, z, w)

def f_Matrix_readFactors_47 (k : mM → Nat → Nat → (Option Nat) → Int32 → (Option Nat) → Int32 → Option ((Option Nat) × mM × Nat × Nat)) (kx54 : mM → Nat → Nat → (Option Nat) → Option ((Option Nat) × mM × Nat × Nat)) (μ : mM) (z w : Nat) (x0 : Option Nat) (x1 : Int32) (x2 : Option Nat) (x3 : Int32) (s0 : Option Nat) (s1 : Int32) (s2 : Int64) : Option ((Option Nat) × mM × Nat × Nat) :=
  (msJ μ (s0) s1 s2).bind fun m3 =>
  k m3 z w x0 x1 x2 (x3 + (1 : Int32))

def f_Matrix_readFactors_7 (kx54 : mM → Nat → Nat → (Option Nat) → Option ((Option Nat) × mM × Nat × Nat)) : Nat → mM → Nat → Nat → (Option Nat) → Int32 → (Option Nat) → Int32 → Option ((Option Nat) × mM × Nat × Nat)
  | 0, _, _, _, _, _, _, _ => none
  | n + 1, μ, z, w, x0, x1, x2, x3 =>
  if (9 : Int32) ≤ x3 then
    kx54 μ z w x2
  else
    (f_CL_wordAt μ x0 ((x1 + (2 : Int32)) + ((2 : Int32) * x3))).bind fun q2 =>
    if q2 < (32768 : Int32) then
      f_Matrix_readFactors_47 (f_Matrix_readFactors_7 kx54 n) kx54 μ z w x0 x1 x2 x3 x2 x3 ((q2).toInt64)
    else
      f_Matrix_readFactors_47 (f_Matrix_readFactors_7 kx54 n) kx54 μ z w x0 x1 x2 x3 x2 x3 (((q2 - (65536 : Int32))).toInt64)

def f_Matrix_readFactors (μ : mM) (z w : Nat) (x0 : Option Nat) (x1 : Int32) : Option ((Option Nat) × mM × Nat × Nat) :=
  mmT z w z w <|
  (mna μ z 1 (9 : Int32)).bind fun m1 => mmT z w (z + 1) (w + ((9 : Int32)).toNatClampNeg) <|
  f_Matrix_readFactors_7  (fun μ z w y2 => f_Matrix_readFactors_54 μ z w y2) 4096 m1 (z + 1) (w + ((9 : Int32)).toNatClampNeg) x0 x1 (some z) (0 : Int32)

-- R ColourLinker$Matrix.isUnit([J)Z
def f_Matrix_isUnit_47 (μ : mM) (x1 : Int32) : Option (Int32) :=
  (mz x1).bind fun v2 =>
  some (v2)

def f_Matrix_isUnit_40 (μ : mM) (k : (Option Nat) → Int32 → Int32 → Option (Int32)) (kx47 : Int32 → Option (Int32)) (x0 : Option Nat) (x2 : Int32) (s0 : Int32) : Option (Int32) :=
  k x0 s0 (x2 + (1 : Int32))

def f_Matrix_isUnit_39 (μ : mM) (k : (Option Nat) → Int32 → Int32 → Option (Int32)) (kx47 : Int32 → Option (Int32)) (x0 : Option Nat) (x2 : Int32) : Option (Int32) :=
  f_Matrix_isUnit_40 μ k kx47 x0 x2 (0 : Int32)

def f_Matrix_isUnit_30 (μ : mM) (k : (Option Nat) → Int32 → Int32 → Option (Int32)) (kx47 : Int32 → Option (Int32)) (x0 : Option Nat) (x2 : Int32) (s0 : Int64) (s1 : Int32) : Option (Int32) :=
  if s0 = (s1).toInt64 then
    f_Matrix_isUnit_40 μ k kx47 x0 x2 (1 : Int32)
  else
    f_Matrix_isUnit_39 μ k kx47 x0 x2

def f_Matrix_isUnit_4 (μ : mM) (kx47 : Int32 → Option (Int32)) : Nat → (Option Nat) → Int32 → Int32 → Option (Int32)
  | 0, _, _, _ => none
  | n + 1, x0, x1, x2 =>
  if (9 : Int32) ≤ x2 then
    kx47 x1
  else
    if x1 = 0 then
      f_Matrix_isUnit_39 μ (f_Matrix_isUnit_4 μ kx47 n) kx47 x0 x2
    else
      (mgJ μ (x0) x2).bind fun v1 =>
      if (x2 - x2 / (4 : Int32) * (4 : Int32)) = 0 then
        f_Matrix_isUnit_30 μ (f_Matrix_isUnit_4 μ kx47 n) kx47 x0 x2 v1 (4096 : Int32)
      else
        f_Matrix_isUnit_30 μ (f_Matrix_isUnit_4 μ kx47 n) kx47 x0 x2 v1 (0 : Int32)

def f_Matrix_isUnit (μ : mM) (x0 : Option Nat) : Option (Int32) :=
  f_Matrix_isUnit_4 μ (fun y1 => f_Matrix_isUnit_47 μ y1) 4096 x0 (1 : Int32) (0 : Int32)

-- W ColourLinker$Matrix.<init>(IZ[JJ)V
def f_Matrix_init (h0 : Nat) (μ : mM) (x1 : Int32) (x2 : Int32) (x3 : Option Nat) (x4 : Int64) : Option (mM) :=
  ((some h0).bind fun a => f_Piece_init a μ x1 x2).bind fun q1 =>
  (mpA q1 (some h0) [8] 2 x3).bind fun m2 =>
  (mpJ m2 (some h0) [8] 3 x4).bind fun m3 =>
  some (m3)

-- N ColourLinker$Matrix.forth([II)LColourLinker$Matrix;
def f_Matrix_forth (μ : mM) (z w : Nat) (x0 : Option Nat) (x1 : Int32) : Option ((Option Nat) × mM × Nat × Nat) :=
  mmT z w z w <|
  (f_Matrix_readFactors μ z w x0 x1).bind fun q1 => mmT z w q1.2.2.1 q1.2.2.2 <|
  (mnew q1.2.1 q1.2.2.1 8 [.int 0, .int 0, .null, .long 0]).bind fun m2 => mmT q1.2.2.1 q1.2.2.2 (q1.2.2.1 + 1) (q1.2.2.2 + 4) <|
  (f_Matrix_isUnit m2 q1.1).bind fun q3 =>
  ((some q1.2.2.1).bind fun a => f_Matrix_init a m2 (2 : Int32) q3 q1.1 (4096 : Int64)).bind fun q4 =>
  some (some q1.2.2.1, q4, (q1.2.2.1 + 1), (q1.2.2.2 + 4))

-- R ColourLinker$Matrix.cofactor([JII)J
def f_Matrix_cofactor (μ : mM) (x0 : Option Nat) (x1 : Int32) (x2 : Int32) : Option (Int64) :=
  (mgJ μ (x0) (((3 : Int32) * ((x1 + (1 : Int32)) - (x1 + (1 : Int32)) / (3 : Int32) * (3 : Int32))) + ((x2 + (1 : Int32)) - (x2 + (1 : Int32)) / (3 : Int32) * (3 : Int32)))).bind fun v1 =>
  (mgJ μ (x0) (((3 : Int32) * ((x1 + (2 : Int32)) - (x1 + (2 : Int32)) / (3 : Int32) * (3 : Int32))) + ((x2 + (2 : Int32)) - (x2 + (2 : Int32)) / (3 : Int32) * (3 : Int32)))).bind fun v2 =>
  (mgJ μ (x0) (((3 : Int32) * ((x1 + (1 : Int32)) - (x1 + (1 : Int32)) / (3 : Int32) * (3 : Int32))) + ((x2 + (2 : Int32)) - (x2 + (2 : Int32)) / (3 : Int32) * (3 : Int32)))).bind fun v3 =>
  (mgJ μ (x0) (((3 : Int32) * ((x1 + (2 : Int32)) - (x1 + (2 : Int32)) / (3 : Int32) * (3 : Int32))) + ((x2 + (1 : Int32)) - (x2 + (1 : Int32)) / (3 : Int32) * (3 : Int32)))).bind fun v4 =>
  some (((v1 * v2) - (v3 * v4)))

-- N ColourLinker$Matrix.back([II)LColourLinker$Matrix;
def f_Matrix_back_62 (μ : mM) (z w : Nat) (x2 : Option Nat) (x3 : Option Nat) : Option ((Option Nat) × mM × Nat × Nat) :=
  (mgJ μ (x2) (0 : Int32)).bind fun v5 =>
  (f_Matrix_cofactor μ x2 (0 : Int32) (0 : Int32)).bind fun q6 =>
  (mgJ μ (x2) (1 : Int32)).bind fun v7 =>
  (f_Matrix_cofactor μ x2 (0 : Int32) (1 : Int32)).bind fun q8 =>
  (mgJ μ (x2) (2 : Int32)).bind fun v9 =>
  (f_Matrix_cofactor μ x2 (0 : Int32) (2 : Int32)).bind fun q10 =>
  (mnew μ z 8 [.int 0, .int 0, .null, .long 0]).bind fun m11 => mmT z w (z + 1) (w + 4) <|
  (f_Matrix_isUnit m11 x2).bind fun q12 =>
  ((some z).bind fun a => f_Matrix_init a m11 (10 : Int32) q12 x3 (((v5 * q6) + (v7 * q8)) + (v9 * q10))).bind fun q13 =>
  some (some z, q13, (z + 1), (w + 4))

def f_Matrix_back_56 (k : mM → Nat → Nat → (Option Nat) → (Option Nat) → Int32 → Option ((Option Nat) × mM × Nat × Nat)) (kx62 : mM → Nat → Nat → (Option Nat) → (Option Nat) → Option ((Option Nat) × mM × Nat × Nat)) (μ : mM) (z w : Nat) (x2 : Option Nat) (x3 : Option Nat) (x4 : Int32) : Option ((Option Nat) × mM × Nat × Nat) :=
  k μ z w x2 x3 (x4 + (1 : Int32))

def f_Matrix_back_23 (kx56 : mM → Nat → Nat → (Option Nat) → (Option Nat) → Int32 → Option ((Option Nat) × mM × Nat × Nat)) : Nat → mM → Nat → Nat → (Option Nat) → (Option Nat) → Int32 → Int32 → Option ((Option Nat) × mM × Nat × Nat)
  | 0, _, _, _, _, _, _, _ => none
  | n + 1, μ, z, w, x2, x3, x4, x5 =>
  if (3 : Int32) ≤ x5 then
    kx56 μ z w x2 x3 x4
  else
    (f_Matrix_cofactor μ x2 x4 x5).bind fun q3 =>
    (msJ μ (x3) (((3 : Int32) * x5) + x4) ((4096 : Int64) * q3)).bind fun m4 =>
    f_Matrix_back_23 kx56 n m4 z w x2 x3 x4 (x5 + (1 : Int32))

def f_Matrix_back_14 (kx62 : mM → Nat → Nat → (Option Nat) → (Option Nat) → Option ((Option Nat) × mM × Nat × Nat)) : Nat → mM → Nat → Nat → (Option Nat) → (Option Nat) → Int32 → Option ((Option Nat) × mM × Nat × Nat)
  | 0, _, _, _, _, _, _ => none
  | n + 1, μ, z, w, x2, x3, x4 =>
  if (3 : Int32) ≤ x4 then
    kx62 μ z w x2 x3
  else
    f_Matrix_back_23  (fun μ z w y2 y3 y4 => f_Matrix_back_56 (f_Matrix_back_14 kx62 n) kx62 μ z w y2 y3 y4) 4096 μ z w x2 x3 x4 (0 : Int32)

def f_Matrix_back (μ : mM) (z w : Nat) (x0 : Option Nat) (x1 : Int32) : Option ((Option Nat) × mM × Nat × Nat) :=
  mmT z w z w <|
  (f_Matrix_readFactors μ z w x0 x1).bind fun q1 => mmT z w q1.2.2.1 q1.2.2.2 <|
  (mna q1.2.1 q1.2.2.1 1 (9 : Int32)).bind fun m2 => mmT q1.2.2.1 q1.2.2.2 (q1.2.2.1 + 1) (q1.2.2.2 + ((9 : Int32)).toNatClampNeg) <|
  f_Matrix_back_14  (fun μ z w y2 y3 => f_Matrix_back_62 μ z w y2 y3) 4096 m2 (q1.2.2.1 + 1) (q1.2.2.2 + ((9 : Int32)).toNatClampNeg) q1.1 (some q1.2.2.1) (0 : Int32)

