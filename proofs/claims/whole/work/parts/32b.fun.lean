-- W ColourLinkerModel.link(IIIZ)I
def f_Mo_link_16 (h0 : Nat) (μ : mM) : Option (Int32 × mM) :=
  some ((-1 : Int32), μ)

def f_Mo_link (h0 : Nat) (μ : mM) (x1 : Int32) (x2 : Int32) (x3 : Int32) (x4 : Int32) : Option (Int32 × mM) :=
  ((mrc μ (some h0) 11).bind fun a => f_Mo_there μ a x1).bind fun q1 =>
  if q1 = 0 then
    f_Mo_link_16 h0 μ
  else
    ((mrc μ (some h0) 11).bind fun a => f_Mo_there μ a x2).bind fun q2 =>
    if q2 = 0 then
      f_Mo_link_16 h0 μ
    else
      ((mrc μ (some h0) 11).bind fun a => f_Mo_make a μ (-1 : Int32) x1 x2 x3 x4).bind fun q3 =>
      some (q3.1, q3.2)

-- R ColourLinker.linkAt(I)LColourLinker$Link;
def f_CL_linkAt_22 (μ : mM) (h0 : Nat) (s0 : Option Nat) : Option (Option Nat) :=
  some (s0)

def f_CL_linkAt_21 (μ : mM) (h0 : Nat) : Option (Option Nat) :=
  f_CL_linkAt_22 μ h0 none

def f_CL_linkAt (μ : mM) (h0 : Nat) (x1 : Int32) : Option (Option Nat) :=
  if x1 < 0 then
    f_CL_linkAt_21 μ h0 
  else
    (mfI μ (some h0) [10] 4).bind fun v1 =>
    if v1 ≤ x1 then
      f_CL_linkAt_21 μ h0 
    else
      (mfA μ (some h0) [10] 3).bind fun v2 =>
      (mgA μ (v2) x1).bind fun v3 =>
      f_CL_linkAt_22 μ h0 v3

-- N ColourLinker.extend(IIIZ)I
def f_CL_extend_35 (h0 : Nat) (μ : mM) (z w : Nat) (s0 : Int32) : Option (Int32 × mM × Nat × Nat) :=
  some (s0, μ, z, w)

def f_CL_extend (h0 : Nat) (μ : mM) (z w : Nat) (x1 : Int32) (x2 : Int32) (x3 : Int32) (x4 : Int32) : Option (Int32 × mM × Nat × Nat) :=
  mmT z w z w <|
  ((mrc μ (some h0) 10).bind fun a => f_CL_linkAt μ a x1).bind fun q1 =>
  if q1 = none then
    f_CL_extend_35 h0 μ z w (-1 : Int32)
  else
    (mfA μ (q1) [7] 2).bind fun v2 =>
    ((mrc μ (some h0) 10).bind fun a => f_CL_profileAt μ a x2).bind fun q3 =>
    ((mrc μ (some h0) 10).bind fun a => f_CL_join a μ z w q1 v2 q3 x3 x4).bind fun q4 => mmT z w q4.2.2.1 q4.2.2.2 <|
    f_CL_extend_35 h0 q4.2.1 q4.2.2.1 q4.2.2.2 q4.1

-- R ColourLinkerModel.linked(I)Z
def f_Mo_linked_17 (μ : mM) (h0 : Nat) (s0 : Int32) : Option (Int32) :=
  (mz s0).bind fun v2 =>
  some (v2)

def f_Mo_linked_16 (μ : mM) (h0 : Nat) : Option (Int32) :=
  f_Mo_linked_17 μ h0 (0 : Int32)

def f_Mo_linked (μ : mM) (h0 : Nat) (x1 : Int32) : Option (Int32) :=
  if x1 < 0 then
    f_Mo_linked_16 μ h0 
  else
    (mfI μ (some h0) [11] 10).bind fun v1 =>
    if v1 ≤ x1 then
      f_Mo_linked_16 μ h0 
    else
      f_Mo_linked_17 μ h0 (1 : Int32)

-- W ColourLinkerModel.extend(IIIZ)I
def f_Mo_extend_16 (h0 : Nat) (μ : mM) : Option (Int32 × mM) :=
  some ((-1 : Int32), μ)

def f_Mo_extend (h0 : Nat) (μ : mM) (x1 : Int32) (x2 : Int32) (x3 : Int32) (x4 : Int32) : Option (Int32 × mM) :=
  ((mrc μ (some h0) 11).bind fun a => f_Mo_linked μ a x1).bind fun q1 =>
  if q1 = 0 then
    f_Mo_extend_16 h0 μ
  else
    ((mrc μ (some h0) 11).bind fun a => f_Mo_there μ a x2).bind fun q2 =>
    if q2 = 0 then
      f_Mo_extend_16 h0 μ
    else
      (mfA μ (some h0) [11] 6).bind fun v3 =>
      (mgI μ (v3) x1).bind fun v4 =>
      ((mrc μ (some h0) 11).bind fun a => f_Mo_make a μ x1 v4 x2 x3 x4).bind fun q5 =>
      some (q5.1, q5.2)

-- R ColourLinker.links()I
def f_CL_links (μ : mM) (h0 : Nat) : Option (Int32) :=
  (mfI μ (some h0) [10] 4).bind fun v1 =>
  some (v1)

-- R ColourLinkerModel.links()I
def f_Mo_links (μ : mM) (h0 : Nat) : Option (Int32) :=
  (mfI μ (some h0) [11] 10).bind fun v1 =>
  some (v1)

-- R ColourLinker.pieces(I)I
def f_CL_pieces_19 (μ : mM) (h0 : Nat) (s0 : Int32) : Option (Int32) :=
  some (s0)

def f_CL_pieces (μ : mM) (h0 : Nat) (x1 : Int32) : Option (Int32) :=
  ((mrc μ (some h0) 10).bind fun a => f_CL_linkAt μ a x1).bind fun q1 =>
  if q1 = none then
    f_CL_pieces_19 μ h0 (-1 : Int32)
  else
    (mfA μ (q1) [7] 6).bind fun v2 =>
    (ml μ (v2)).bind fun v3 =>
    f_CL_pieces_19 μ h0 v3

-- W ColourLinkerModel.pieces(I)I
def f_Mo_pieces (h0 : Nat) (μ : mM) (x1 : Int32) : Option (Int32 × mM) :=
  ((mrc μ (some h0) 11).bind fun a => f_Mo_linked μ a x1).bind fun q1 =>
  if q1 = 0 then
    some ((-1 : Int32), μ)
  else
    ((mrc μ (some h0) 11).bind fun a => f_Mo_lay a μ x1).bind fun q2 =>
    (mfI q2 (some h0) [11] 16).bind fun v3 =>
    some (v3, q2)

-- R ColourLinker.piece(II)I
def f_CL_piece_23 (μ : mM) (h0 : Nat) : Option (Int32) :=
  some ((-1 : Int32))

def f_CL_piece (μ : mM) (h0 : Nat) (x1 : Int32) (x2 : Int32) : Option (Int32) :=
  ((mrc μ (some h0) 10).bind fun a => f_CL_linkAt μ a x1).bind fun q1 =>
  if q1 = none then
    f_CL_piece_23 μ h0 
  else
    if x2 < 0 then
      f_CL_piece_23 μ h0 
    else
      (mfA μ (q1) [7] 6).bind fun v2 =>
      (ml μ (v2)).bind fun v3 =>
      if x2 < v3 then
        (mfA μ (q1) [7] 6).bind fun v4 =>
        (mgA μ (v4) x2).bind fun v5 =>
        (mfI μ (v5) [0, 3, 4, 5, 6, 8] 0).bind fun v6 =>
        some (v6)
      else
        f_CL_piece_23 μ h0 

-- W ColourLinkerModel.piece(II)I
def f_Mo_piece_25 (h0 : Nat) (μ : mM) (s0 : Int32) : Option (Int32 × mM) :=
  some (s0, μ)

def f_Mo_piece_15 (h0 : Nat) (μ : mM) : Option (Int32 × mM) :=
  f_Mo_piece_25 h0 μ (-1 : Int32)

def f_Mo_piece (h0 : Nat) (μ : mM) (x1 : Int32) (x2 : Int32) : Option (Int32 × mM) :=
  ((mrc μ (some h0) 11).bind fun a => f_Mo_pieces a μ x1).bind fun q1 =>
  if x2 < 0 then
    f_Mo_piece_15 h0 q1.2
  else
    if x2 < q1.1 then
      (mfA q1.2 (some h0) [11] 12).bind fun v2 =>
      (mgI q1.2 (v2) x2).bind fun v3 =>
      f_Mo_piece_25 h0 q1.2 v3
    else
      f_Mo_piece_15 h0 q1.2

-- R ColourLinker$Profile.channels()I
def f_Profile_channels (μ : mM) (h0 : Nat) : Option (Int32) :=
  (mfA μ (some h0) [9] 0).bind fun v1 =>
  (mgI μ (v1) (3 : Int32)).bind fun v2 =>
  some (v2)

-- W ColourLinker.take(LColourLinker$Link;III)Z
def f_CL_take_86 (h0 : Nat) (μ : mM) (s0 : Option Nat) (s1 : Int32) (s2 : Int32) : Option (Int32 × mM) :=
  (msI μ (s0) s1 s2).bind fun m11 =>
  some ((1 : Int32), m11)

def f_CL_take_69 (h0 : Nat) (μ : mM) (x4 : Int32) (x5 : Int32) (s0 : Option Nat) (s1 : Int32) (s2 : Int32) : Option (Int32 × mM) :=
  (msI μ (s0) s1 s2).bind fun m9 =>
  (mfA m9 (some h0) [10] 9).bind fun v10 =>
  if x5 = 0 then
    f_CL_take_86 h0 m9 v10 (2 : Int32) x4
  else
    f_CL_take_86 h0 m9 v10 (2 : Int32) (0 : Int32)

def f_CL_take_47 (h0 : Nat) (μ : mM) (x2 : Int32) (x3 : Int32) (x4 : Int32) (x5 : Int32) : Option (Int32 × mM) :=
  (mfA μ (some h0) [10] 9).bind fun v6 =>
  (msI μ (v6) (0 : Int32) x2).bind fun m7 =>
  (mfA m7 (some h0) [10] 9).bind fun v8 =>
  if x5 = 0 then
    f_CL_take_69 h0 m7 x4 x5 v8 (1 : Int32) x3
  else
    f_CL_take_69 h0 m7 x4 x5 v8 (1 : Int32) (0 : Int32)

def f_CL_take_45 (h0 : Nat) (μ : mM) : Option (Int32 × mM) :=
  some ((0 : Int32), μ)

def f_CL_take_16 (h0 : Nat) (μ : mM) (x2 : Int32) (x3 : Int32) (x4 : Int32) (s0 : Int32) : Option (Int32 × mM) :=
  (f_CL_isLevel μ x2).bind fun q3 =>
  if q3 = 0 then
    f_CL_take_45 h0 μ
  else
    if s0 = 0 then
      (f_CL_isLevel μ x3).bind fun q4 =>
      if q4 = 0 then
        f_CL_take_45 h0 μ
      else
        (f_CL_isLevel μ x4).bind fun q5 =>
        if q5 = 0 then
          f_CL_take_45 h0 μ
        else
          f_CL_take_47 h0 μ x2 x3 x4 s0
    else
      f_CL_take_47 h0 μ x2 x3 x4 s0

def f_CL_take (h0 : Nat) (μ : mM) (x1 : Option Nat) (x2 : Int32) (x3 : Int32) (x4 : Int32) : Option (Int32 × mM) :=
  (mfA μ (x1) [7] 5).bind fun v1 =>
  ((mrc μ (v1) 9).bind fun a => f_Profile_channels μ a).bind fun q2 =>
  if q2 = (1 : Int32) then
    f_CL_take_16 h0 μ x2 x3 x4 (1 : Int32)
  else
    f_CL_take_16 h0 μ x2 x3 x4 (0 : Int32)

-- R ColourLinker.packed([I)J
def f_CL_packed (μ : mM) (x0 : Option Nat) : Option (Int64) :=
  (mgI μ (x0) (0 : Int32)).bind fun v1 =>
  (mgI μ (x0) (1 : Int32)).bind fun v2 =>
  (mgI μ (x0) (2 : Int32)).bind fun v3 =>
  some (((((v1).toInt64 <<< (((32 : Int32)).toInt64 &&& 63)) + ((v2).toInt64 <<< (((16 : Int32)).toInt64 &&& 63))) + (v3).toInt64))

-- W ColourLinker$Link.runFirst(I[I)V
def f_Link_runFirst_32 (h0 : Nat) (μ : mM) : Option (mM) :=
  some (μ)

def f_Link_runFirst_2 (h0 : Nat) (kx32 : mM → Option (mM)) : Nat → mM → Int32 → (Option Nat) → Int32 → Option (mM)
  | 0, _, _, _, _ => none
  | n + 1, μ, x1, x2, x3 =>
  if x1 ≤ x3 then
    kx32 μ
  else
    (mfA μ (some h0) [7] 6).bind fun v1 =>
    (ml μ (v1)).bind fun v2 =>
    if v2 ≤ x3 then
      kx32 μ
    else
      (mfA μ (some h0) [7] 6).bind fun v3 =>
      (mgA μ (v3) x3).bind fun v4 =>
      ((v4).bind fun a => f_Piece_run a μ x2).bind fun q5 =>
      f_Link_runFirst_2 h0 kx32 n q5 x1 x2 (x3 + (1 : Int32))

def f_Link_runFirst (h0 : Nat) (μ : mM) (x1 : Int32) (x2 : Option Nat) : Option (mM) :=
  f_Link_runFirst_2 h0 (fun μ => f_Link_runFirst_32 h0 μ) 4096 μ x1 x2 (0 : Int32)

-- W ColourLinker.convert(IIII)J
def f_CL_convert_98 (h0 : Nat) (μ : mM) (x5 : Option Nat) : Option (Int64 × mM) :=
  (mfJ μ (x5) [7] 8).bind fun v18 =>
  some (v18, μ)

def f_CL_convert_25 (h0 : Nat) (μ : mM) : Option (Int64 × mM) :=
  some ((-1 : Int64), μ)

def f_CL_convert (h0 : Nat) (μ : mM) (x1 : Int32) (x2 : Int32) (x3 : Int32) (x4 : Int32) : Option (Int64 × mM) :=
  ((mrc μ (some h0) 10).bind fun a => f_CL_linkAt μ a x1).bind fun q1 =>
  if q1 = none then
    f_CL_convert_25 h0 μ
  else
    ((mrc μ (some h0) 10).bind fun a => f_CL_take a μ q1 x2 x3 x4).bind fun q2 =>
    if q2.1 = 0 then
      f_CL_convert_25 h0 q2.2
    else
      (mfA q2.2 (some h0) [10] 9).bind fun v3 =>
      (f_CL_packed q2.2 v3).bind fun q4 =>
      (mfJ q2.2 (q1) [7] 7).bind fun v5 =>
      if q4 = v5 then
        f_CL_convert_98 h0 q2.2 q1
      else
        (mfA q2.2 (q1) [7] 6).bind fun v6 =>
        (ml q2.2 (v6)).bind fun v7 =>
        (mfA q2.2 (some h0) [10] 9).bind fun v8 =>
        ((mrc q2.2 (q1) 7).bind fun a => f_Link_runFirst a q2.2 v7 v8).bind fun q9 =>
        (mfI q9 (some h0) [10] 10).bind fun v10 =>
        (mfA q9 (q1) [7] 6).bind fun v11 =>
        (ml q9 (v11)).bind fun v12 =>
        (mpI q9 (some h0) [10] 10 (v10 + v12)).bind fun m13 =>
        (mpJ m13 (q1) [7] 7 q4).bind fun m14 =>
        (mfA m14 (some h0) [10] 9).bind fun v15 =>
        (f_CL_packed m14 v15).bind fun q16 =>
        (mpJ m14 (q1) [7] 8 q16).bind fun m17 =>
        f_CL_convert_98 h0 m17 q1

-- R ColourLinkerModel.level(I)Z
def f_Mo_level_15 (μ : mM) (h0 : Nat) (s0 : Int32) : Option (Int32) :=
  (mz s0).bind fun v1 =>
  some (v1)

def f_Mo_level_14 (μ : mM) (h0 : Nat) : Option (Int32) :=
  f_Mo_level_15 μ h0 (0 : Int32)

def f_Mo_level (μ : mM) (h0 : Nat) (x1 : Int32) : Option (Int32) :=
  if x1 < 0 then
    f_Mo_level_14 μ h0 
  else
    if (65535 : Int32) < x1 then
      f_Mo_level_14 μ h0 
    else
      f_Mo_level_15 μ h0 (1 : Int32)

