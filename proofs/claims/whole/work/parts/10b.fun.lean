-- N ColourLinker$Buffer.<init>()V
def f_Buffer_init (h0 : Nat) (μ : mM) (z w : Nat) : Option (mM × Nat × Nat) :=
  mmV z w z w <|
  (mna μ z 0 (256 : Int32)).bind fun m1 => mmV z w (z + 1) (w + ((256 : Int32)).toNatClampNeg) <|
  (mpA m1 (some h0) [1] 0 (some z)).bind fun m2 =>
  some (m2, (z + 1), (w + ((256 : Int32)).toNatClampNeg))

-- W ColourLinker$Piece.<init>(IZ)V
def f_Piece_init (h0 : Nat) (μ : mM) (x1 : Int32) (x2 : Int32) : Option (mM) :=
  (mpI μ (some h0) [0, 3, 4, 5, 6, 8] 0 x1).bind fun m1 =>
  (mpZ m1 (some h0) [0, 3, 4, 5, 6, 8] 1 x2).bind fun m2 =>
  some (m2)

-- W ColourLinker$LabXyz.<init>(I)V
def f_LabXyz_init (h0 : Nat) (μ : mM) (x1 : Int32) : Option (mM) :=
  ((some h0).bind fun a => f_Piece_init a μ x1 (0 : Int32)).bind fun q1 =>
  some (q1)

-- N ColourLinker.<init>()V
def f_CL_init (h0 : Nat) (μ : mM) (z w : Nat) : Option (mM × Nat × Nat) :=
  mmV z w z w <|
  (mnew μ z 1 [.null, .int 0]).bind fun m1 => mmV z w (z + 1) (w + 2) <|
  ((some z).bind fun a => f_Buffer_init a m1 (z + 1) (w + 2)).bind fun q2 => mmV (z + 1) (w + 2) q2.2.1 q2.2.2 <|
  (mpA q2.1 (some h0) [10] 0 (some z)).bind fun m3 =>
  (mna m3 q2.2.1 3 (6 : Int32)).bind fun m4 => mmV q2.2.1 q2.2.2 (q2.2.1 + 1) (q2.2.2 + ((6 : Int32)).toNatClampNeg) <|
  (mpA m4 (some h0) [10] 1 (some q2.2.1)).bind fun m5 =>
  (mna m5 (q2.2.1 + 1) 4 (16 : Int32)).bind fun m6 => mmV (q2.2.1 + 1) (q2.2.2 + ((6 : Int32)).toNatClampNeg) ((q2.2.1 + 1) + 1) ((q2.2.2 + ((6 : Int32)).toNatClampNeg) + ((16 : Int32)).toNatClampNeg) <|
  (mpA m6 (some h0) [10] 3 (some (q2.2.1 + 1))).bind fun m7 =>
  (mnew m7 ((q2.2.1 + 1) + 1) 6 [.int 0, .int 0]).bind fun m8 => mmV ((q2.2.1 + 1) + 1) ((q2.2.2 + ((6 : Int32)).toNatClampNeg) + ((16 : Int32)).toNatClampNeg) (((q2.2.1 + 1) + 1) + 1) (((q2.2.2 + ((6 : Int32)).toNatClampNeg) + ((16 : Int32)).toNatClampNeg) + 2) <|
  ((some ((q2.2.1 + 1) + 1)).bind fun a => f_LabXyz_init a m8 (5 : Int32)).bind fun q9 =>
  (mpA q9 (some h0) [10] 5 (some ((q2.2.1 + 1) + 1))).bind fun m10 =>
  (mnew m10 (((q2.2.1 + 1) + 1) + 1) 6 [.int 0, .int 0]).bind fun m11 => mmV (((q2.2.1 + 1) + 1) + 1) (((q2.2.2 + ((6 : Int32)).toNatClampNeg) + ((16 : Int32)).toNatClampNeg) + 2) ((((q2.2.1 + 1) + 1) + 1) + 1) ((((q2.2.2 + ((6 : Int32)).toNatClampNeg) + ((16 : Int32)).toNatClampNeg) + 2) + 2) <|
  ((some (((q2.2.1 + 1) + 1) + 1)).bind fun a => f_LabXyz_init a m11 (6 : Int32)).bind fun q12 =>
  (mpA q12 (some h0) [10] 6 (some (((q2.2.1 + 1) + 1) + 1))).bind fun m13 =>
  (mna m13 ((((q2.2.1 + 1) + 1) + 1) + 1) 5 (32 : Int32)).bind fun m14 => mmV ((((q2.2.1 + 1) + 1) + 1) + 1) ((((q2.2.2 + ((6 : Int32)).toNatClampNeg) + ((16 : Int32)).toNatClampNeg) + 2) + 2) (((((q2.2.1 + 1) + 1) + 1) + 1) + 1) (((((q2.2.2 + ((6 : Int32)).toNatClampNeg) + ((16 : Int32)).toNatClampNeg) + 2) + 2) + ((32 : Int32)).toNatClampNeg) <|
  (mpA m14 (some h0) [10] 7 (some ((((q2.2.1 + 1) + 1) + 1) + 1))).bind fun m15 =>
  (mna m15 (((((q2.2.1 + 1) + 1) + 1) + 1) + 1) 0 (3 : Int32)).bind fun m16 => mmV (((((q2.2.1 + 1) + 1) + 1) + 1) + 1) (((((q2.2.2 + ((6 : Int32)).toNatClampNeg) + ((16 : Int32)).toNatClampNeg) + 2) + 2) + ((32 : Int32)).toNatClampNeg) ((((((q2.2.1 + 1) + 1) + 1) + 1) + 1) + 1) ((((((q2.2.2 + ((6 : Int32)).toNatClampNeg) + ((16 : Int32)).toNatClampNeg) + 2) + 2) + ((32 : Int32)).toNatClampNeg) + ((3 : Int32)).toNatClampNeg) <|
  (mpA m16 (some h0) [10] 9 (some (((((q2.2.1 + 1) + 1) + 1) + 1) + 1))).bind fun m17 =>
  some (m17, ((((((q2.2.1 + 1) + 1) + 1) + 1) + 1) + 1), ((((((q2.2.2 + ((6 : Int32)).toNatClampNeg) + ((16 : Int32)).toNatClampNeg) + 2) + 2) + ((32 : Int32)).toNatClampNeg) + ((3 : Int32)).toNatClampNeg))

-- N ColourLinkerModel.<init>()V
def f_Mo_init (h0 : Nat) (μ : mM) (z w : Nat) : Option (mM × Nat × Nat) :=
  mmV z w z w <|
  (mna μ z 0 (256 : Int32)).bind fun m1 => mmV z w (z + 1) (w + ((256 : Int32)).toNatClampNeg) <|
  (mpA m1 (some h0) [11] 0 (some z)).bind fun m2 =>
  (mna m2 (z + 1) 0 (1536 : Int32)).bind fun m3 => mmV (z + 1) (w + ((256 : Int32)).toNatClampNeg) ((z + 1) + 1) ((w + ((256 : Int32)).toNatClampNeg) + ((1536 : Int32)).toNatClampNeg) <|
  (mpA m3 (some h0) [11] 2 (some (z + 1))).bind fun m4 =>
  (mna m4 ((z + 1) + 1) 0 (16 : Int32)).bind fun m5 => mmV ((z + 1) + 1) ((w + ((256 : Int32)).toNatClampNeg) + ((1536 : Int32)).toNatClampNeg) (((z + 1) + 1) + 1) (((w + ((256 : Int32)).toNatClampNeg) + ((1536 : Int32)).toNatClampNeg) + ((16 : Int32)).toNatClampNeg) <|
  (mpA m5 (some h0) [11] 4 (some ((z + 1) + 1))).bind fun m6 =>
  (mna m6 (((z + 1) + 1) + 1) 0 (16 : Int32)).bind fun m7 => mmV (((z + 1) + 1) + 1) (((w + ((256 : Int32)).toNatClampNeg) + ((1536 : Int32)).toNatClampNeg) + ((16 : Int32)).toNatClampNeg) ((((z + 1) + 1) + 1) + 1) ((((w + ((256 : Int32)).toNatClampNeg) + ((1536 : Int32)).toNatClampNeg) + ((16 : Int32)).toNatClampNeg) + ((16 : Int32)).toNatClampNeg) <|
  (mpA m7 (some h0) [11] 5 (some (((z + 1) + 1) + 1))).bind fun m8 =>
  (mna m8 ((((z + 1) + 1) + 1) + 1) 0 (16 : Int32)).bind fun m9 => mmV ((((z + 1) + 1) + 1) + 1) ((((w + ((256 : Int32)).toNatClampNeg) + ((1536 : Int32)).toNatClampNeg) + ((16 : Int32)).toNatClampNeg) + ((16 : Int32)).toNatClampNeg) (((((z + 1) + 1) + 1) + 1) + 1) (((((w + ((256 : Int32)).toNatClampNeg) + ((1536 : Int32)).toNatClampNeg) + ((16 : Int32)).toNatClampNeg) + ((16 : Int32)).toNatClampNeg) + ((16 : Int32)).toNatClampNeg) <|
  (mpA m9 (some h0) [11] 6 (some ((((z + 1) + 1) + 1) + 1))).bind fun m10 =>
  (mna m10 (((((z + 1) + 1) + 1) + 1) + 1) 0 (16 : Int32)).bind fun m11 => mmV (((((z + 1) + 1) + 1) + 1) + 1) (((((w + ((256 : Int32)).toNatClampNeg) + ((1536 : Int32)).toNatClampNeg) + ((16 : Int32)).toNatClampNeg) + ((16 : Int32)).toNatClampNeg) + ((16 : Int32)).toNatClampNeg) ((((((z + 1) + 1) + 1) + 1) + 1) + 1) ((((((w + ((256 : Int32)).toNatClampNeg) + ((1536 : Int32)).toNatClampNeg) + ((16 : Int32)).toNatClampNeg) + ((16 : Int32)).toNatClampNeg) + ((16 : Int32)).toNatClampNeg) + ((16 : Int32)).toNatClampNeg) <|
  (mpA m11 (some h0) [11] 7 (some (((((z + 1) + 1) + 1) + 1) + 1))).bind fun m12 =>
  (mna m12 ((((((z + 1) + 1) + 1) + 1) + 1) + 1) 2 (16 : Int32)).bind fun m13 => mmV ((((((z + 1) + 1) + 1) + 1) + 1) + 1) ((((((w + ((256 : Int32)).toNatClampNeg) + ((1536 : Int32)).toNatClampNeg) + ((16 : Int32)).toNatClampNeg) + ((16 : Int32)).toNatClampNeg) + ((16 : Int32)).toNatClampNeg) + ((16 : Int32)).toNatClampNeg) (((((((z + 1) + 1) + 1) + 1) + 1) + 1) + 1) (((((((w + ((256 : Int32)).toNatClampNeg) + ((1536 : Int32)).toNatClampNeg) + ((16 : Int32)).toNatClampNeg) + ((16 : Int32)).toNatClampNeg) + ((16 : Int32)).toNatClampNeg) + ((16 : Int32)).toNatClampNeg) + ((16 : Int32)).toNatClampNeg) <|
  (mpA m13 (some h0) [11] 8 (some ((((((z + 1) + 1) + 1) + 1) + 1) + 1))).bind fun m14 =>
  (mna m14 (((((((z + 1) + 1) + 1) + 1) + 1) + 1) + 1) 1 (16 : Int32)).bind fun m15 => mmV (((((((z + 1) + 1) + 1) + 1) + 1) + 1) + 1) (((((((w + ((256 : Int32)).toNatClampNeg) + ((1536 : Int32)).toNatClampNeg) + ((16 : Int32)).toNatClampNeg) + ((16 : Int32)).toNatClampNeg) + ((16 : Int32)).toNatClampNeg) + ((16 : Int32)).toNatClampNeg) + ((16 : Int32)).toNatClampNeg) ((((((((z + 1) + 1) + 1) + 1) + 1) + 1) + 1) + 1) ((((((((w + ((256 : Int32)).toNatClampNeg) + ((1536 : Int32)).toNatClampNeg) + ((16 : Int32)).toNatClampNeg) + ((16 : Int32)).toNatClampNeg) + ((16 : Int32)).toNatClampNeg) + ((16 : Int32)).toNatClampNeg) + ((16 : Int32)).toNatClampNeg) + ((16 : Int32)).toNatClampNeg) <|
  (mpA m15 (some h0) [11] 9 (some (((((((z + 1) + 1) + 1) + 1) + 1) + 1) + 1))).bind fun m16 =>
  (mna m16 ((((((((z + 1) + 1) + 1) + 1) + 1) + 1) + 1) + 1) 0 (40 : Int32)).bind fun m17 => mmV ((((((((z + 1) + 1) + 1) + 1) + 1) + 1) + 1) + 1) ((((((((w + ((256 : Int32)).toNatClampNeg) + ((1536 : Int32)).toNatClampNeg) + ((16 : Int32)).toNatClampNeg) + ((16 : Int32)).toNatClampNeg) + ((16 : Int32)).toNatClampNeg) + ((16 : Int32)).toNatClampNeg) + ((16 : Int32)).toNatClampNeg) + ((16 : Int32)).toNatClampNeg) (((((((((z + 1) + 1) + 1) + 1) + 1) + 1) + 1) + 1) + 1) (((((((((w + ((256 : Int32)).toNatClampNeg) + ((1536 : Int32)).toNatClampNeg) + ((16 : Int32)).toNatClampNeg) + ((16 : Int32)).toNatClampNeg) + ((16 : Int32)).toNatClampNeg) + ((16 : Int32)).toNatClampNeg) + ((16 : Int32)).toNatClampNeg) + ((16 : Int32)).toNatClampNeg) + ((40 : Int32)).toNatClampNeg) <|
  (mpA m17 (some h0) [11] 12 (some ((((((((z + 1) + 1) + 1) + 1) + 1) + 1) + 1) + 1))).bind fun m18 =>
  (mna m18 (((((((((z + 1) + 1) + 1) + 1) + 1) + 1) + 1) + 1) + 1) 0 (40 : Int32)).bind fun m19 => mmV (((((((((z + 1) + 1) + 1) + 1) + 1) + 1) + 1) + 1) + 1) (((((((((w + ((256 : Int32)).toNatClampNeg) + ((1536 : Int32)).toNatClampNeg) + ((16 : Int32)).toNatClampNeg) + ((16 : Int32)).toNatClampNeg) + ((16 : Int32)).toNatClampNeg) + ((16 : Int32)).toNatClampNeg) + ((16 : Int32)).toNatClampNeg) + ((16 : Int32)).toNatClampNeg) + ((40 : Int32)).toNatClampNeg) ((((((((((z + 1) + 1) + 1) + 1) + 1) + 1) + 1) + 1) + 1) + 1) ((((((((((w + ((256 : Int32)).toNatClampNeg) + ((1536 : Int32)).toNatClampNeg) + ((16 : Int32)).toNatClampNeg) + ((16 : Int32)).toNatClampNeg) + ((16 : Int32)).toNatClampNeg) + ((16 : Int32)).toNatClampNeg) + ((16 : Int32)).toNatClampNeg) + ((16 : Int32)).toNatClampNeg) + ((40 : Int32)).toNatClampNeg) + ((40 : Int32)).toNatClampNeg) <|
  (mpA m19 (some h0) [11] 13 (some (((((((((z + 1) + 1) + 1) + 1) + 1) + 1) + 1) + 1) + 1))).bind fun m20 =>
  (mna m20 ((((((((((z + 1) + 1) + 1) + 1) + 1) + 1) + 1) + 1) + 1) + 1) 0 (40 : Int32)).bind fun m21 => mmV ((((((((((z + 1) + 1) + 1) + 1) + 1) + 1) + 1) + 1) + 1) + 1) ((((((((((w + ((256 : Int32)).toNatClampNeg) + ((1536 : Int32)).toNatClampNeg) + ((16 : Int32)).toNatClampNeg) + ((16 : Int32)).toNatClampNeg) + ((16 : Int32)).toNatClampNeg) + ((16 : Int32)).toNatClampNeg) + ((16 : Int32)).toNatClampNeg) + ((16 : Int32)).toNatClampNeg) + ((40 : Int32)).toNatClampNeg) + ((40 : Int32)).toNatClampNeg) (((((((((((z + 1) + 1) + 1) + 1) + 1) + 1) + 1) + 1) + 1) + 1) + 1) (((((((((((w + ((256 : Int32)).toNatClampNeg) + ((1536 : Int32)).toNatClampNeg) + ((16 : Int32)).toNatClampNeg) + ((16 : Int32)).toNatClampNeg) + ((16 : Int32)).toNatClampNeg) + ((16 : Int32)).toNatClampNeg) + ((16 : Int32)).toNatClampNeg) + ((16 : Int32)).toNatClampNeg) + ((40 : Int32)).toNatClampNeg) + ((40 : Int32)).toNatClampNeg) + ((40 : Int32)).toNatClampNeg) <|
  (mpA m21 (some h0) [11] 14 (some ((((((((((z + 1) + 1) + 1) + 1) + 1) + 1) + 1) + 1) + 1) + 1))).bind fun m22 =>
  (mna m22 (((((((((((z + 1) + 1) + 1) + 1) + 1) + 1) + 1) + 1) + 1) + 1) + 1) 0 (40 : Int32)).bind fun m23 => mmV (((((((((((z + 1) + 1) + 1) + 1) + 1) + 1) + 1) + 1) + 1) + 1) + 1) (((((((((((w + ((256 : Int32)).toNatClampNeg) + ((1536 : Int32)).toNatClampNeg) + ((16 : Int32)).toNatClampNeg) + ((16 : Int32)).toNatClampNeg) + ((16 : Int32)).toNatClampNeg) + ((16 : Int32)).toNatClampNeg) + ((16 : Int32)).toNatClampNeg) + ((16 : Int32)).toNatClampNeg) + ((40 : Int32)).toNatClampNeg) + ((40 : Int32)).toNatClampNeg) + ((40 : Int32)).toNatClampNeg) ((((((((((((z + 1) + 1) + 1) + 1) + 1) + 1) + 1) + 1) + 1) + 1) + 1) + 1) ((((((((((((w + ((256 : Int32)).toNatClampNeg) + ((1536 : Int32)).toNatClampNeg) + ((16 : Int32)).toNatClampNeg) + ((16 : Int32)).toNatClampNeg) + ((16 : Int32)).toNatClampNeg) + ((16 : Int32)).toNatClampNeg) + ((16 : Int32)).toNatClampNeg) + ((16 : Int32)).toNatClampNeg) + ((40 : Int32)).toNatClampNeg) + ((40 : Int32)).toNatClampNeg) + ((40 : Int32)).toNatClampNeg) + ((40 : Int32)).toNatClampNeg) <|
  (mpA m23 (some h0) [11] 15 (some (((((((((((z + 1) + 1) + 1) + 1) + 1) + 1) + 1) + 1) + 1) + 1) + 1))).bind fun m24 =>
  (mna m24 ((((((((((((z + 1) + 1) + 1) + 1) + 1) + 1) + 1) + 1) + 1) + 1) + 1) + 1) 0 (16 : Int32)).bind fun m25 => mmV ((((((((((((z + 1) + 1) + 1) + 1) + 1) + 1) + 1) + 1) + 1) + 1) + 1) + 1) ((((((((((((w + ((256 : Int32)).toNatClampNeg) + ((1536 : Int32)).toNatClampNeg) + ((16 : Int32)).toNatClampNeg) + ((16 : Int32)).toNatClampNeg) + ((16 : Int32)).toNatClampNeg) + ((16 : Int32)).toNatClampNeg) + ((16 : Int32)).toNatClampNeg) + ((16 : Int32)).toNatClampNeg) + ((40 : Int32)).toNatClampNeg) + ((40 : Int32)).toNatClampNeg) + ((40 : Int32)).toNatClampNeg) + ((40 : Int32)).toNatClampNeg) (((((((((((((z + 1) + 1) + 1) + 1) + 1) + 1) + 1) + 1) + 1) + 1) + 1) + 1) + 1) (((((((((((((w + ((256 : Int32)).toNatClampNeg) + ((1536 : Int32)).toNatClampNeg) + ((16 : Int32)).toNatClampNeg) + ((16 : Int32)).toNatClampNeg) + ((16 : Int32)).toNatClampNeg) + ((16 : Int32)).toNatClampNeg) + ((16 : Int32)).toNatClampNeg) + ((16 : Int32)).toNatClampNeg) + ((40 : Int32)).toNatClampNeg) + ((40 : Int32)).toNatClampNeg) + ((40 : Int32)).toNatClampNeg) + ((40 : Int32)).toNatClampNeg) + ((16 : Int32)).toNatClampNeg) <|
  (mpA m25 (some h0) [11] 17 (some ((((((((((((z + 1) + 1) + 1) + 1) + 1) + 1) + 1) + 1) + 1) + 1) + 1) + 1))).bind fun m26 =>
  (mna m26 (((((((((((((z + 1) + 1) + 1) + 1) + 1) + 1) + 1) + 1) + 1) + 1) + 1) + 1) + 1) 1 (3 : Int32)).bind fun m27 => mmV (((((((((((((z + 1) + 1) + 1) + 1) + 1) + 1) + 1) + 1) + 1) + 1) + 1) + 1) + 1) (((((((((((((w + ((256 : Int32)).toNatClampNeg) + ((1536 : Int32)).toNatClampNeg) + ((16 : Int32)).toNatClampNeg) + ((16 : Int32)).toNatClampNeg) + ((16 : Int32)).toNatClampNeg) + ((16 : Int32)).toNatClampNeg) + ((16 : Int32)).toNatClampNeg) + ((16 : Int32)).toNatClampNeg) + ((40 : Int32)).toNatClampNeg) + ((40 : Int32)).toNatClampNeg) + ((40 : Int32)).toNatClampNeg) + ((40 : Int32)).toNatClampNeg) + ((16 : Int32)).toNatClampNeg) ((((((((((((((z + 1) + 1) + 1) + 1) + 1) + 1) + 1) + 1) + 1) + 1) + 1) + 1) + 1) + 1) ((((((((((((((w + ((256 : Int32)).toNatClampNeg) + ((1536 : Int32)).toNatClampNeg) + ((16 : Int32)).toNatClampNeg) + ((16 : Int32)).toNatClampNeg) + ((16 : Int32)).toNatClampNeg) + ((16 : Int32)).toNatClampNeg) + ((16 : Int32)).toNatClampNeg) + ((16 : Int32)).toNatClampNeg) + ((40 : Int32)).toNatClampNeg) + ((40 : Int32)).toNatClampNeg) + ((40 : Int32)).toNatClampNeg) + ((40 : Int32)).toNatClampNeg) + ((16 : Int32)).toNatClampNeg) + ((3 : Int32)).toNatClampNeg) <|
  (mpA m27 (some h0) [11] 18 (some (((((((((((((z + 1) + 1) + 1) + 1) + 1) + 1) + 1) + 1) + 1) + 1) + 1) + 1) + 1))).bind fun m28 =>
  (mna m28 ((((((((((((((z + 1) + 1) + 1) + 1) + 1) + 1) + 1) + 1) + 1) + 1) + 1) + 1) + 1) + 1) 1 (3 : Int32)).bind fun m29 => mmV ((((((((((((((z + 1) + 1) + 1) + 1) + 1) + 1) + 1) + 1) + 1) + 1) + 1) + 1) + 1) + 1) ((((((((((((((w + ((256 : Int32)).toNatClampNeg) + ((1536 : Int32)).toNatClampNeg) + ((16 : Int32)).toNatClampNeg) + ((16 : Int32)).toNatClampNeg) + ((16 : Int32)).toNatClampNeg) + ((16 : Int32)).toNatClampNeg) + ((16 : Int32)).toNatClampNeg) + ((16 : Int32)).toNatClampNeg) + ((40 : Int32)).toNatClampNeg) + ((40 : Int32)).toNatClampNeg) + ((40 : Int32)).toNatClampNeg) + ((40 : Int32)).toNatClampNeg) + ((16 : Int32)).toNatClampNeg) + ((3 : Int32)).toNatClampNeg) (((((((((((((((z + 1) + 1) + 1) + 1) + 1) + 1) + 1) + 1) + 1) + 1) + 1) + 1) + 1) + 1) + 1) (((((((((((((((w + ((256 : Int32)).toNatClampNeg) + ((1536 : Int32)).toNatClampNeg) + ((16 : Int32)).toNatClampNeg) + ((16 : Int32)).toNatClampNeg) + ((16 : Int32)).toNatClampNeg) + ((16 : Int32)).toNatClampNeg) + ((16 : Int32)).toNatClampNeg) + ((16 : Int32)).toNatClampNeg) + ((40 : Int32)).toNatClampNeg) + ((40 : Int32)).toNatClampNeg) + ((40 : Int32)).toNatClampNeg) + ((40 : Int32)).toNatClampNeg) + ((16 : Int32)).toNatClampNeg) + ((3 : Int32)).toNatClampNeg) + ((3 : Int32)).toNatClampNeg) <|
  (mpA m29 (some h0) [11] 19 (some ((((((((((((((z + 1) + 1) + 1) + 1) + 1) + 1) + 1) + 1) + 1) + 1) + 1) + 1) + 1) + 1))).bind fun m30 =>
  (mna m30 (((((((((((((((z + 1) + 1) + 1) + 1) + 1) + 1) + 1) + 1) + 1) + 1) + 1) + 1) + 1) + 1) + 1) 1 (9 : Int32)).bind fun m31 => mmV (((((((((((((((z + 1) + 1) + 1) + 1) + 1) + 1) + 1) + 1) + 1) + 1) + 1) + 1) + 1) + 1) + 1) (((((((((((((((w + ((256 : Int32)).toNatClampNeg) + ((1536 : Int32)).toNatClampNeg) + ((16 : Int32)).toNatClampNeg) + ((16 : Int32)).toNatClampNeg) + ((16 : Int32)).toNatClampNeg) + ((16 : Int32)).toNatClampNeg) + ((16 : Int32)).toNatClampNeg) + ((16 : Int32)).toNatClampNeg) + ((40 : Int32)).toNatClampNeg) + ((40 : Int32)).toNatClampNeg) + ((40 : Int32)).toNatClampNeg) + ((40 : Int32)).toNatClampNeg) + ((16 : Int32)).toNatClampNeg) + ((3 : Int32)).toNatClampNeg) + ((3 : Int32)).toNatClampNeg) ((((((((((((((((z + 1) + 1) + 1) + 1) + 1) + 1) + 1) + 1) + 1) + 1) + 1) + 1) + 1) + 1) + 1) + 1) ((((((((((((((((w + ((256 : Int32)).toNatClampNeg) + ((1536 : Int32)).toNatClampNeg) + ((16 : Int32)).toNatClampNeg) + ((16 : Int32)).toNatClampNeg) + ((16 : Int32)).toNatClampNeg) + ((16 : Int32)).toNatClampNeg) + ((16 : Int32)).toNatClampNeg) + ((16 : Int32)).toNatClampNeg) + ((40 : Int32)).toNatClampNeg) + ((40 : Int32)).toNatClampNeg) + ((40 : Int32)).toNatClampNeg) + ((40 : Int32)).toNatClampNeg) + ((16 : Int32)).toNatClampNeg) + ((3 : Int32)).toNatClampNeg) + ((3 : Int32)).toNatClampNeg) + ((9 : Int32)).toNatClampNeg) <|
  (mpA m31 (some h0) [11] 20 (some (((((((((((((((z + 1) + 1) + 1) + 1) + 1) + 1) + 1) + 1) + 1) + 1) + 1) + 1) + 1) + 1) + 1))).bind fun m32 =>
  some (m32, ((((((((((((((((z + 1) + 1) + 1) + 1) + 1) + 1) + 1) + 1) + 1) + 1) + 1) + 1) + 1) + 1) + 1) + 1), ((((((((((((((((w + ((256 : Int32)).toNatClampNeg) + ((1536 : Int32)).toNatClampNeg) + ((16 : Int32)).toNatClampNeg) + ((16 : Int32)).toNatClampNeg) + ((16 : Int32)).toNatClampNeg) + ((16 : Int32)).toNatClampNeg) + ((16 : Int32)).toNatClampNeg) + ((16 : Int32)).toNatClampNeg) + ((40 : Int32)).toNatClampNeg) + ((40 : Int32)).toNatClampNeg) + ((40 : Int32)).toNatClampNeg) + ((40 : Int32)).toNatClampNeg) + ((16 : Int32)).toNatClampNeg) + ((3 : Int32)).toNatClampNeg) + ((3 : Int32)).toNatClampNeg) + ((9 : Int32)).toNatClampNeg))

-- W ColourLinker$Buffer.append(II)Z
def f_Buffer_append_67 (h0 : Nat) (μ : mM) : Option (Int32 × mM) :=
  some ((1 : Int32), μ)

def f_Buffer_append_28 (h0 : Nat) (kx67 : mM → Option (Int32 × mM)) : Nat → mM → Int32 → Int32 → Option (Int32 × mM)
  | 0, _, _, _ => none
  | n + 1, μ, x1, x3 =>
  if x3 < 0 then
    kx67 μ
  else
    (mfA μ (some h0) [1] 0).bind fun v2 =>
    (mfI μ (some h0) [1] 1).bind fun v3 =>
    (msI μ (v2) v3 (((x1).toUInt32 >>> ((((8 : Int32) * x3)).toUInt32 &&& Int32.toUInt32 31)).toInt32 &&& (255 : Int32))).bind fun m4 =>
    (mfI m4 (some h0) [1] 1).bind fun v5 =>
    (mpI m4 (some h0) [1] 1 (v5 + (1 : Int32))).bind fun m6 =>
    f_Buffer_append_28 h0 kx67 n m6 x1 (x3 + (-1 : Int32))

def f_Buffer_append_22 (h0 : Nat) (μ : mM) : Option (Int32 × mM) :=
  some ((0 : Int32), μ)

def f_Buffer_append (h0 : Nat) (μ : mM) (x1 : Int32) (x2 : Int32) : Option (Int32 × mM) :=
  if x2 < (1 : Int32) then
    f_Buffer_append_22 h0 μ
  else
    if (4 : Int32) < x2 then
      f_Buffer_append_22 h0 μ
    else
      (mfI μ (some h0) [1] 1).bind fun v1 =>
      if (v1 + x2) ≤ (256 : Int32) then
        f_Buffer_append_28 h0 (fun μ => f_Buffer_append_67 h0 μ) 4096 μ x1 (x2 - (1 : Int32))
      else
        f_Buffer_append_22 h0 μ

-- W ColourLinker.add(II)Z
def f_CL_add (h0 : Nat) (μ : mM) (x1 : Int32) (x2 : Int32) : Option (Int32 × mM) :=
  (mfA μ (some h0) [10] 0).bind fun v1 =>
  ((mrc μ (v1) 1).bind fun a => f_Buffer_append a μ x1 x2).bind fun q2 =>
  (mz q2.1).bind fun v3 =>
  some (v3, q2.2)

-- W ColourLinkerModel.add(II)Z
def f_Mo_add_67 (h0 : Nat) (μ : mM) : Option (Int32 × mM) :=
  some ((1 : Int32), μ)

def f_Mo_add_28 (h0 : Nat) (kx67 : mM → Option (Int32 × mM)) : Nat → mM → Int32 → Int32 → Option (Int32 × mM)
  | 0, _, _, _ => none
  | n + 1, μ, x1, x3 =>
  if x3 < 0 then
    kx67 μ
  else
    (mfA μ (some h0) [11] 0).bind fun v2 =>
    (mfI μ (some h0) [11] 1).bind fun v3 =>
    (msI μ (v2) v3 ((x1 >>> (((8 : Int32) * x3) &&& 31)) &&& (255 : Int32))).bind fun m4 =>
    (mfI m4 (some h0) [11] 1).bind fun v5 =>
    (mpI m4 (some h0) [11] 1 (v5 + (1 : Int32))).bind fun m6 =>
    f_Mo_add_28 h0 kx67 n m6 x1 (x3 + (-1 : Int32))

def f_Mo_add_22 (h0 : Nat) (μ : mM) : Option (Int32 × mM) :=
  some ((0 : Int32), μ)

def f_Mo_add (h0 : Nat) (μ : mM) (x1 : Int32) (x2 : Int32) : Option (Int32 × mM) :=
  if x2 < (1 : Int32) then
    f_Mo_add_22 h0 μ
  else
    if (4 : Int32) < x2 then
      f_Mo_add_22 h0 μ
    else
      (mfI μ (some h0) [11] 1).bind fun v1 =>
      if v1 ≤ ((256 : Int32) - x2) then
        f_Mo_add_28 h0 (fun μ => f_Mo_add_67 h0 μ) 4096 μ x1 (x2 - (1 : Int32))
      else
        f_Mo_add_22 h0 μ

-- W ColourLinker$Buffer.replace(II)Z
def f_Buffer_replace_23 (h0 : Nat) (μ : mM) : Option (Int32 × mM) :=
  some ((0 : Int32), μ)

def f_Buffer_replace (h0 : Nat) (μ : mM) (x1 : Int32) (x2 : Int32) : Option (Int32 × mM) :=
  if x1 < 0 then
    f_Buffer_replace_23 h0 μ
  else
    (mfI μ (some h0) [1] 1).bind fun v1 =>
    if v1 ≤ x1 then
      f_Buffer_replace_23 h0 μ
    else
      if x2 < 0 then
        f_Buffer_replace_23 h0 μ
      else
        if x2 ≤ (255 : Int32) then
          (mfA μ (some h0) [1] 0).bind fun v2 =>
          (msI μ (v2) x1 x2).bind fun m3 =>
          some ((1 : Int32), m3)
        else
          f_Buffer_replace_23 h0 μ

-- W ColourLinker.set(II)Z
def f_CL_set (h0 : Nat) (μ : mM) (x1 : Int32) (x2 : Int32) : Option (Int32 × mM) :=
  (mfA μ (some h0) [10] 0).bind fun v1 =>
  ((mrc μ (v1) 1).bind fun a => f_Buffer_replace a μ x1 x2).bind fun q2 =>
  (mz q2.1).bind fun v3 =>
  some (v3, q2.2)

-- W ColourLinkerModel.set(II)Z
def f_Mo_set_23 (h0 : Nat) (μ : mM) : Option (Int32 × mM) :=
  some ((0 : Int32), μ)

def f_Mo_set (h0 : Nat) (μ : mM) (x1 : Int32) (x2 : Int32) : Option (Int32 × mM) :=
  if x1 < 0 then
    f_Mo_set_23 h0 μ
  else
    (mfI μ (some h0) [11] 1).bind fun v1 =>
    if v1 ≤ x1 then
      f_Mo_set_23 h0 μ
    else
      if x2 < 0 then
        f_Mo_set_23 h0 μ
      else
        if x2 ≤ (255 : Int32) then
          (mfA μ (some h0) [11] 0).bind fun v2 =>
          (msI μ (v2) x1 x2).bind fun m3 =>
          some ((1 : Int32), m3)
        else
          f_Mo_set_23 h0 μ

-- W ColourLinker.clear()V
def f_CL_clear (h0 : Nat) (μ : mM) : Option (mM) :=
  (mfA μ (some h0) [10] 0).bind fun v1 =>
  (mpI μ (v1) [1] 1 (0 : Int32)).bind fun m2 =>
  some (m2)

-- W ColourLinkerModel.clear()V
def f_Mo_clear (h0 : Nat) (μ : mM) : Option (mM) :=
  (mpI μ (some h0) [11] 1 (0 : Int32)).bind fun m1 =>
  some (m1)

-- R ColourLinker.size()I
def f_CL_size (μ : mM) (h0 : Nat) : Option (Int32) :=
  (mfA μ (some h0) [10] 0).bind fun v1 =>
  (mfI μ (v1) [1] 1).bind fun v2 =>
  some (v2)

-- R ColourLinkerModel.size()I
def f_Mo_size (μ : mM) (h0 : Nat) : Option (Int32) :=
  (mfI μ (some h0) [11] 1).bind fun v1 =>
  some (v1)

-- R ColourLinker$Buffer.byteAt(I)I
def f_Buffer_byteAt_22 (μ : mM) (h0 : Nat) (s0 : Int32) : Option (Int32) :=
  some (s0)

def f_Buffer_byteAt_21 (μ : mM) (h0 : Nat) : Option (Int32) :=
  f_Buffer_byteAt_22 μ h0 (-1 : Int32)

def f_Buffer_byteAt (μ : mM) (h0 : Nat) (x1 : Int32) : Option (Int32) :=
  if x1 < 0 then
    f_Buffer_byteAt_21 μ h0 
  else
    (mfI μ (some h0) [1] 1).bind fun v1 =>
    if v1 ≤ x1 then
      f_Buffer_byteAt_21 μ h0 
    else
      (mfA μ (some h0) [1] 0).bind fun v2 =>
      (mgI μ (v2) x1).bind fun v3 =>
      f_Buffer_byteAt_22 μ h0 v3

-- R ColourLinker.at(I)I
def f_CL_at (μ : mM) (h0 : Nat) (x1 : Int32) : Option (Int32) :=
  (mfA μ (some h0) [10] 0).bind fun v1 =>
  ((mrc μ (v1) 1).bind fun a => f_Buffer_byteAt μ a x1).bind fun q2 =>
  some (q2)

-- R ColourLinkerModel.at(I)I
def f_Mo_at_22 (μ : mM) (h0 : Nat) (s0 : Int32) : Option (Int32) :=
  some (s0)

def f_Mo_at_12 (μ : mM) (h0 : Nat) : Option (Int32) :=
  f_Mo_at_22 μ h0 (-1 : Int32)

def f_Mo_at (μ : mM) (h0 : Nat) (x1 : Int32) : Option (Int32) :=
  if x1 < 0 then
    f_Mo_at_12 μ h0 
  else
    (mfI μ (some h0) [11] 1).bind fun v1 =>
    if x1 < v1 then
      (mfA μ (some h0) [11] 0).bind fun v2 =>
      (mgI μ (v2) x1).bind fun v3 =>
      f_Mo_at_22 μ h0 v3
    else
      f_Mo_at_12 μ h0 

-- R ColourLinker.wordAt([II)I
def f_CL_wordAt (μ : mM) (x0 : Option Nat) (x1 : Int32) : Option (Int32) :=
  (mgI μ (x0) x1).bind fun v1 =>
  (mgI μ (x0) (x1 + (1 : Int32))).bind fun v2 =>
  some ((((256 : Int32) * v1) + v2))

-- R ColourLinker$Buffer.broken(II)I
def f_Buffer_broken (μ : mM) (x0 : Int32) (x1 : Int32) : Option (Int32) :=
  some ((-(((1000 : Int32) * x0) + x1)))

