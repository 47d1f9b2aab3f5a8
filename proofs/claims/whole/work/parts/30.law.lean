def x_nI (r : Option XR) (f : HP → Int32 → Option XR) : Option XR := match r with
  | some (h, (none, some (.int v))) => f h v
  | _ => none
def x_nV (r : Option XR) (f : HP → Option XR) : Option XR := match r with
  | some (h, (none, none)) => f h
  | _ => none
def x_sl (L : Nat) (i : Int32) (k : Option XR) : Option XR := if 0 ≤ i.toInt ∧ i.toInt < L then k else none
theorem x_sl_el {L : Nat} {i : Int32} {k : Option XR} {z : XR} (h : x_sl L i k = some z) : vp_in i L ∧ k = some z := by
  obtain ⟨h1, h2⟩ := x_if h
  exact ⟨vp_in_iff.mpr h1, h2⟩
section XL
variable {p : Program} {l : Launch} {e : Env} {R : Room} {s : State} {m : MethodId} {args : Array Value} {below : List Frame} {meth : Method} {c : Code} {H : Heap} {locs : List Loc} {cells slots : Nat} {Q : State → Prop}
variable {cc : ByteArray} {pc nL : Nat} {ls : Array Slot} {rest : List Value} {E : XE} {h : HP} {own nm : String} {rt : Option FieldType} {z : XR}
theorem x_thenLI (hS : va_S (x_A E) s.heap H locs) {kf : HP → Int32 → Option XR} {r0 : Option XR} (hf : x_nI r0 kf = some z) {y : Array Value} {mc0 ms0 : Nat} {st0 : List Value}
    (hr : ∀ z0 : XR, r0 = some z0 → vx_Run p l e R s m args below meth c H locs cells slots mc0 ms0 (F0 m pc ls st0) rest (x_Qc E z0.1 z0.2 y) (x_Xc E z0.1 z0.2) (x_A E))
    (kk : ∀ (h' : HP) (v : Int32) (H1 : Heap) (locs1 : List Loc), x_Rep E h' H1 → va_S (x_A E) s.heap H1 locs1 → kf h' v = some z → W p l e R s m args below meth c H1 locs1 (cells + mc0) (slots + ms0) Q (F0 m (pc + 3) ls (.int v :: rest))) : W p l e R s m args below meth c H locs cells slots Q (F0 m pc ls st0) := by
  unfold x_nI at hf
  split at hf
  · exact x_useI (hr _ rfl) hS fun H1 l1 r1 s1 => kk _ _ H1 l1 r1 s1 hf
  · cases hf
theorem x_thenLV (hS : va_S (x_A E) s.heap H locs) {kf : HP → Option XR} {r0 : Option XR} (hf : x_nV r0 kf = some z) {y : Array Value} {mc0 ms0 : Nat} {st0 : List Value}
    (hr : ∀ z0 : XR, r0 = some z0 → vx_Run p l e R s m args below meth c H locs cells slots mc0 ms0 (F0 m pc ls st0) rest (x_Qc E z0.1 z0.2 y) (x_Xc E z0.1 z0.2) (x_A E))
    (kk : ∀ (h' : HP) (H1 : Heap) (locs1 : List Loc), x_Rep E h' H1 → va_S (x_A E) s.heap H1 locs1 → kf h' = some z → W p l e R s m args below meth c H1 locs1 (cells + mc0) (slots + ms0) Q (F0 m (pc + 3) ls rest)) : W p l e R s m args below meth c H locs cells slots Q (F0 m pc ls st0) := by
  unfold x_nV at hf
  split at hf
  · exact x_useV (hr _ rfl) hS fun H1 l1 r1 s1 => kk _ H1 l1 r1 s1 hf
  · cases hf
end XL

def f_L_law_b2070 (L : Nat) (xs : Nat → Int32) (k23 : HP → Nat → Nat → Nat → Int32 → Option XR) (h : HP) (r1 : Nat) (r2 : Nat) (r3 : Nat) (x4 : Int32) : Option XR :=
  k23 h r1 r2 r3 (x4 + 5)
def f_L_law_b219 (L : Nat) (xs : Nat → Int32) (k23 : HP → Nat → Nat → Nat → Int32 → Option XR) (h : HP) (r1 : Nat) (r2 : Nat) (r3 : Nat) (x4 : Int32) : Option XR :=
  f_L_law_b2070 L xs k23 h r1 r2 r3 x4
def f_L_law_b275 (L : Nat) (xs : Nat → Int32) (k23 : HP → Nat → Nat → Nat → Int32 → Option XR) (h : HP) (r1 : Nat) (r2 : Nat) (r3 : Nat) (x4 : Int32) : Option XR :=
  f_L_law_b2070 L xs k23 h r1 r2 r3 x4
def f_L_law_b331 (L : Nat) (xs : Nat → Int32) (k23 : HP → Nat → Nat → Nat → Int32 → Option XR) (h : HP) (r1 : Nat) (r2 : Nat) (r3 : Nat) (x4 : Int32) : Option XR :=
  f_L_law_b2070 L xs k23 h r1 r2 r3 x4
def f_L_law_b411 (L : Nat) (xs : Nat → Int32) (k23 : HP → Nat → Nat → Nat → Int32 → Option XR) (h : HP) (r1 : Nat) (r2 : Nat) (r3 : Nat) (x4 : Int32) : Option XR :=
  f_L_law_b2070 L xs k23 h r1 r2 r3 x4
def f_L_law_b491 (L : Nat) (xs : Nat → Int32) (k23 : HP → Nat → Nat → Nat → Int32 → Option XR) (h : HP) (r1 : Nat) (r2 : Nat) (r3 : Nat) (x4 : Int32) : Option XR :=
  f_L_law_b2070 L xs k23 h r1 r2 r3 x4
def f_L_law_b575 (L : Nat) (xs : Nat → Int32) (k23 : HP → Nat → Nat → Nat → Int32 → Option XR) (h : HP) (r1 : Nat) (r2 : Nat) (r3 : Nat) (x4 : Int32) : Option XR :=
  f_L_law_b2070 L xs k23 h r1 r2 r3 x4
def f_L_law_b542 (L : Nat) (xs : Nat → Int32) (k23 : HP → Nat → Nat → Nat → Int32 → Option XR) (h : HP) (t0 : Int32) (t1 : Int32) (t2 : Nat) (r1 : Nat) (r2 : Nat) (r3 : Nat) (x4 : Int32) (x5 : Int32) : Option XR :=
  x_rc h t2 8 <| x_nI (f_X8_setFlow h t2 t1 t0) fun h2 i1 =>
  x_rc h2 r2 8 <| x_nI (f_X8_thrown h2 r2) fun h4 i3 =>
  if i3 = x5 then
    (
      if x5 = 0 then
        (
          x_aJ h4 r3 0 fun j5 =>
          if (lg_cmp j5 ((i1 : Int32).toInt64)) = 0 then
            (
              f_L_law_b575 L xs k23 h4 r1 r2 r3 x4
            )
          else
            (
              none
            )
        )
      else
        (
          f_L_law_b575 L xs k23 h4 r1 r2 r3 x4
        )
    )
  else
    (
      none
    )
def f_L_law_b515 (L : Nat) (xs : Nat → Int32) (k23 : HP → Nat → Nat → Nat → Int32 → Option XR) (h : HP) (t0 : Int32) (t1 : Int32) (t2 : Nat) (r1 : Nat) (r2 : Nat) (r3 : Nat) (x4 : Int32) : Option XR :=
  x_nI (f_L_setFlow h t2 t1 t0 r3) fun h2 i1 =>
  x_sl L (x4 + 1) <|
  x_sl L (x4 + 2) <|
  if (xs ((x4 + 2) : Int32).toNatClampNeg) = 0 then
    (
      f_L_law_b542 L xs k23 h2 0 (xs ((x4 + 1) : Int32).toNatClampNeg) r2 r1 r2 r3 x4 i1
    )
  else
    (
      f_L_law_b542 L xs k23 h2 1 (xs ((x4 + 1) : Int32).toNatClampNeg) r2 r1 r2 r3 x4 i1
    )
def f_L_law_b667 (L : Nat) (xs : Nat → Int32) (k23 : HP → Nat → Nat → Nat → Int32 → Option XR) (h : HP) (r1 : Nat) (r2 : Nat) (r3 : Nat) (x4 : Int32) : Option XR :=
  f_L_law_b2070 L xs k23 h r1 r2 r3 x4
def f_L_law_b759 (L : Nat) (xs : Nat → Int32) (k23 : HP → Nat → Nat → Nat → Int32 → Option XR) (h : HP) (r1 : Nat) (r2 : Nat) (r3 : Nat) (x4 : Int32) : Option XR :=
  f_L_law_b2070 L xs k23 h r1 r2 r3 x4
def f_L_law_b839 (L : Nat) (xs : Nat → Int32) (k23 : HP → Nat → Nat → Nat → Int32 → Option XR) (h : HP) (r1 : Nat) (r2 : Nat) (r3 : Nat) (x4 : Int32) : Option XR :=
  f_L_law_b2070 L xs k23 h r1 r2 r3 x4
def f_L_law_b947 (L : Nat) (xs : Nat → Int32) (k23 : HP → Nat → Nat → Nat → Int32 → Option XR) (h : HP) (r1 : Nat) (r2 : Nat) (r3 : Nat) (x4 : Int32) : Option XR :=
  f_L_law_b2070 L xs k23 h r1 r2 r3 x4
def f_L_law_b908 (L : Nat) (xs : Nat → Int32) (k23 : HP → Nat → Nat → Nat → Int32 → Option XR) (h : HP) (t0 : Int32) (t1 : Int32) (t2 : Int32) (t3 : Nat) (r1 : Nat) (r2 : Nat) (r3 : Nat) (x4 : Int32) (x5 : Int32) : Option XR :=
  x_sl L (x4 + 4) <|
  x_rc h t3 8 <| x_nI (f_X8_contribute h t3 t2 t1 t0 (xs ((x4 + 4) : Int32).toNatClampNeg)) fun h2 i1 =>
  x_rc h2 r2 8 <| x_nI (f_X8_thrown h2 r2) fun h4 i3 =>
  if i3 = x5 then
    (
      if x5 = 0 then
        (
          x_aJ h4 r3 0 fun j5 =>
          if (lg_cmp j5 ((i1 : Int32).toInt64)) = 0 then
            (
              f_L_law_b947 L xs k23 h4 r1 r2 r3 x4
            )
          else
            (
              none
            )
        )
      else
        (
          f_L_law_b947 L xs k23 h4 r1 r2 r3 x4
        )
    )
  else
    (
      none
    )
def f_L_law_b869 (L : Nat) (xs : Nat → Int32) (k23 : HP → Nat → Nat → Nat → Int32 → Option XR) (h : HP) (t0 : Int32) (t1 : Int32) (t2 : Int32) (t3 : Nat) (r1 : Nat) (r2 : Nat) (r3 : Nat) (x4 : Int32) : Option XR :=
  x_sl L (x4 + 4) <|
  x_nI (f_L_contribute h t3 t2 t1 t0 (xs ((x4 + 4) : Int32).toNatClampNeg) r3) fun h2 i1 =>
  x_sl L (x4 + 1) <|
  x_sl L (x4 + 2) <|
  x_sl L (x4 + 3) <|
  if (xs ((x4 + 3) : Int32).toNatClampNeg) = 0 then
    (
      f_L_law_b908 L xs k23 h2 0 (xs ((x4 + 2) : Int32).toNatClampNeg) (xs ((x4 + 1) : Int32).toNatClampNeg) r2 r1 r2 r3 x4 i1
    )
  else
    (
      f_L_law_b908 L xs k23 h2 1 (xs ((x4 + 2) : Int32).toNatClampNeg) (xs ((x4 + 1) : Int32).toNatClampNeg) r2 r1 r2 r3 x4 i1
    )
def f_L_law_b1003 (L : Nat) (xs : Nat → Int32) (k23 : HP → Nat → Nat → Nat → Int32 → Option XR) (h : HP) (r1 : Nat) (r2 : Nat) (r3 : Nat) (x4 : Int32) : Option XR :=
  f_L_law_b2070 L xs k23 h r1 r2 r3 x4
def f_L_law_b1071 (L : Nat) (xs : Nat → Int32) (k23 : HP → Nat → Nat → Nat → Int32 → Option XR) (h : HP) (r1 : Nat) (r2 : Nat) (r3 : Nat) (x4 : Int32) : Option XR :=
  f_L_law_b2070 L xs k23 h r1 r2 r3 x4
def f_L_law_b1140 (L : Nat) (xs : Nat → Int32) (k23 : HP → Nat → Nat → Nat → Int32 → Option XR) (h : HP) (r1 : Nat) (r2 : Nat) (r3 : Nat) (x4 : Int32) : Option XR :=
  f_L_law_b2070 L xs k23 h r1 r2 r3 x4
def f_L_law_b1208 (L : Nat) (xs : Nat → Int32) (k23 : HP → Nat → Nat → Nat → Int32 → Option XR) (h : HP) (r1 : Nat) (r2 : Nat) (r3 : Nat) (x4 : Int32) : Option XR :=
  f_L_law_b2070 L xs k23 h r1 r2 r3 x4
def f_L_law_b1276 (L : Nat) (xs : Nat → Int32) (k23 : HP → Nat → Nat → Nat → Int32 → Option XR) (h : HP) (r1 : Nat) (r2 : Nat) (r3 : Nat) (x4 : Int32) : Option XR :=
  f_L_law_b2070 L xs k23 h r1 r2 r3 x4
def f_L_law_b1332 (L : Nat) (xs : Nat → Int32) (k23 : HP → Nat → Nat → Nat → Int32 → Option XR) (h : HP) (r1 : Nat) (r2 : Nat) (r3 : Nat) (x4 : Int32) : Option XR :=
  f_L_law_b2070 L xs k23 h r1 r2 r3 x4
def f_L_law_b1412 (L : Nat) (xs : Nat → Int32) (k23 : HP → Nat → Nat → Nat → Int32 → Option XR) (h : HP) (r1 : Nat) (r2 : Nat) (r3 : Nat) (x4 : Int32) : Option XR :=
  f_L_law_b2070 L xs k23 h r1 r2 r3 x4
def f_L_law_b1487 (L : Nat) (xs : Nat → Int32) (k23 : HP → Nat → Nat → Nat → Int32 → Option XR) (h : HP) (r1 : Nat) (r2 : Nat) (r3 : Nat) (x4 : Int32) : Option XR :=
  f_L_law_b2070 L xs k23 h r1 r2 r3 x4
def f_L_law_b1481 (L : Nat) (xs : Nat → Int32) (k23 : HP → Nat → Nat → Nat → Int32 → Option XR) (h : HP) (t0 : Int64) (t1 : Int64) (r1 : Nat) (r2 : Nat) (r3 : Nat) (x4 : Int32) : Option XR :=
  if (lg_cmp t1 t0) = 0 then
    (
      f_L_law_b1487 L xs k23 h r1 r2 r3 x4
    )
  else
    (
      none
    )
def f_L_law_b1555 (L : Nat) (xs : Nat → Int32) (k23 : HP → Nat → Nat → Nat → Int32 → Option XR) (h : HP) (r1 : Nat) (r2 : Nat) (r3 : Nat) (x4 : Int32) : Option XR :=
  f_L_law_b2070 L xs k23 h r1 r2 r3 x4
def f_L_law_b1623 (L : Nat) (xs : Nat → Int32) (k23 : HP → Nat → Nat → Nat → Int32 → Option XR) (h : HP) (r1 : Nat) (r2 : Nat) (r3 : Nat) (x4 : Int32) : Option XR :=
  f_L_law_b2070 L xs k23 h r1 r2 r3 x4
def f_L_law_b1679 (L : Nat) (xs : Nat → Int32) (k23 : HP → Nat → Nat → Nat → Int32 → Option XR) (h : HP) (r1 : Nat) (r2 : Nat) (r3 : Nat) (x4 : Int32) : Option XR :=
  f_L_law_b2070 L xs k23 h r1 r2 r3 x4
def f_L_law_b1759 (L : Nat) (xs : Nat → Int32) (k23 : HP → Nat → Nat → Nat → Int32 → Option XR) (h : HP) (r1 : Nat) (r2 : Nat) (r3 : Nat) (x4 : Int32) : Option XR :=
  f_L_law_b2070 L xs k23 h r1 r2 r3 x4
def f_L_law_b1843 (L : Nat) (xs : Nat → Int32) (k23 : HP → Nat → Nat → Nat → Int32 → Option XR) (h : HP) (r1 : Nat) (r2 : Nat) (r3 : Nat) (x4 : Int32) : Option XR :=
  f_L_law_b2070 L xs k23 h r1 r2 r3 x4
def f_L_law_b1810 (L : Nat) (xs : Nat → Int32) (k23 : HP → Nat → Nat → Nat → Int32 → Option XR) (h : HP) (t0 : Int32) (t1 : Int32) (t2 : Nat) (r1 : Nat) (r2 : Nat) (r3 : Nat) (x4 : Int32) (x5 : Int32) : Option XR :=
  x_rc h t2 8 <| x_nI (f_X8_unmet h t2 t1 t0) fun h2 i1 =>
  x_rc h2 r2 8 <| x_nI (f_X8_thrown h2 r2) fun h4 i3 =>
  if i3 = x5 then
    (
      if x5 = 0 then
        (
          x_aJ h4 r3 0 fun j5 =>
          if (lg_cmp j5 ((i1 : Int32).toInt64)) = 0 then
            (
              f_L_law_b1843 L xs k23 h4 r1 r2 r3 x4
            )
          else
            (
              none
            )
        )
      else
        (
          f_L_law_b1843 L xs k23 h4 r1 r2 r3 x4
        )
    )
  else
    (
      none
    )
def f_L_law_b1783 (L : Nat) (xs : Nat → Int32) (k23 : HP → Nat → Nat → Nat → Int32 → Option XR) (h : HP) (t0 : Int32) (t1 : Int32) (t2 : Nat) (r1 : Nat) (r2 : Nat) (r3 : Nat) (x4 : Int32) : Option XR :=
  x_nI (f_L_unmet h t2 t1 t0 r3) fun h2 i1 =>
  x_sl L (x4 + 1) <|
  x_sl L (x4 + 2) <|
  if (xs ((x4 + 2) : Int32).toNatClampNeg) = 0 then
    (
      f_L_law_b1810 L xs k23 h2 0 (xs ((x4 + 1) : Int32).toNatClampNeg) r2 r1 r2 r3 x4 i1
    )
  else
    (
      f_L_law_b1810 L xs k23 h2 1 (xs ((x4 + 1) : Int32).toNatClampNeg) r2 r1 r2 r3 x4 i1
    )
def f_L_law_b1911 (L : Nat) (xs : Nat → Int32) (k23 : HP → Nat → Nat → Nat → Int32 → Option XR) (h : HP) (r1 : Nat) (r2 : Nat) (r3 : Nat) (x4 : Int32) : Option XR :=
  f_L_law_b2070 L xs k23 h r1 r2 r3 x4
def f_L_law_b1967 (L : Nat) (xs : Nat → Int32) (k23 : HP → Nat → Nat → Nat → Int32 → Option XR) (h : HP) (r1 : Nat) (r2 : Nat) (r3 : Nat) (x4 : Int32) : Option XR :=
  f_L_law_b2070 L xs k23 h r1 r2 r3 x4
def f_L_law_b2023 (L : Nat) (xs : Nat → Int32) (k23 : HP → Nat → Nat → Nat → Int32 → Option XR) (h : HP) (r1 : Nat) (r2 : Nat) (r3 : Nat) (x4 : Int32) : Option XR :=
  f_L_law_b2070 L xs k23 h r1 r2 r3 x4
def f_L_law_b2067 (L : Nat) (xs : Nat → Int32) (k23 : HP → Nat → Nat → Nat → Int32 → Option XR) (h : HP) (r1 : Nat) (r2 : Nat) (r3 : Nat) (x4 : Int32) : Option XR :=
  f_L_law_b2070 L xs k23 h r1 r2 r3 x4
def f_L_law_b23 (L : Nat) (xs : Nat → Int32) (k23 : HP → Nat → Nat → Nat → Int32 → Option XR) (h : HP) (r1 : Nat) (r2 : Nat) (r3 : Nat) (x4 : Int32) : Option XR :=
  if ((Int32.ofNat L) - 5) < x4 then
    (
      some (h, xi 1)
    )
  else
    (
      x_sl L x4 <|
      if ((xs (x4 : Int32).toNatClampNeg) &&& 31) = 0 then
        (
          x_sl L (x4 + 1) <|
          x_nI (f_L_feed h r1 (((xs ((x4 + 1) : Int32).toNatClampNeg).toUInt32 % 65536).toInt32) r3) fun h2 i1 =>
          x_sl L (x4 + 1) <|
          x_rc h2 r2 8 <| x_nI (f_X8_feed h2 r2 (((xs ((x4 + 1) : Int32).toNatClampNeg).toUInt32 % 65536).toInt32)) fun h4 i3 =>
          x_rc h4 r2 8 <| x_nI (f_X8_thrown h4 r2) fun h6 i5 =>
          if i5 = i1 then
            (
              if i1 = 0 then
                (
                  x_aJ h6 r3 0 fun j7 =>
                  if (lg_cmp j7 ((i3 : Int32).toInt64)) = 0 then
                    (
                      f_L_law_b219 L xs k23 h6 r1 r2 r3 x4
                    )
                  else
                    (
                      none
                    )
                )
              else
                (
                  f_L_law_b219 L xs k23 h6 r1 r2 r3 x4
                )
            )
          else
            (
              none
            )
        )
      else
        (
        if ((xs (x4 : Int32).toNatClampNeg) &&& 31) = 1 then
          (
            x_sl L (x4 + 1) <|
            x_nI (f_L_readTracks h r1 (xs ((x4 + 1) : Int32).toNatClampNeg) r3) fun h9 i8 =>
            x_sl L (x4 + 1) <|
            x_rc h9 r2 8 <| x_nI (f_X8_readTracks h9 r2 (xs ((x4 + 1) : Int32).toNatClampNeg)) fun h11 i10 =>
            x_rc h11 r2 8 <| x_nI (f_X8_thrown h11 r2) fun h13 i12 =>
            if i12 = i8 then
              (
                if i8 = 0 then
                  (
                    x_aJ h13 r3 0 fun j14 =>
                    if (lg_cmp j14 ((i10 : Int32).toInt64)) = 0 then
                      (
                        f_L_law_b275 L xs k23 h13 r1 r2 r3 x4
                      )
                    else
                      (
                        none
                      )
                  )
                else
                  (
                    f_L_law_b275 L xs k23 h13 r1 r2 r3 x4
                  )
              )
            else
              (
                none
              )
          )
        else
          (
          if ((xs (x4 : Int32).toNatClampNeg) &&& 31) = 2 then
            (
              x_sl L (x4 + 1) <|
              x_nI (f_L_readImplicit h r1 (xs ((x4 + 1) : Int32).toNatClampNeg) r3) fun h16 i15 =>
              x_sl L (x4 + 1) <|
              x_rc h16 r2 8 <| x_nI (f_X8_readImplicit h16 r2 (xs ((x4 + 1) : Int32).toNatClampNeg)) fun h18 i17 =>
              x_rc h18 r2 8 <| x_nI (f_X8_thrown h18 r2) fun h20 i19 =>
              if i19 = i15 then
                (
                  if i15 = 0 then
                    (
                      x_aJ h20 r3 0 fun j21 =>
                      if (lg_cmp j21 ((i17 : Int32).toInt64)) = 0 then
                        (
                          f_L_law_b331 L xs k23 h20 r1 r2 r3 x4
                        )
                      else
                        (
                          none
                        )
                    )
                  else
                    (
                      f_L_law_b331 L xs k23 h20 r1 r2 r3 x4
                    )
                )
              else
                (
                  none
                )
            )
          else
            (
            if ((xs (x4 : Int32).toNatClampNeg) &&& 31) = 3 then
              (
                x_sl L (x4 + 1) <|
                x_sl L (x4 + 2) <|
                x_sl L (x4 + 3) <|
                x_nI (f_L_definition h r1 (xs ((x4 + 1) : Int32).toNatClampNeg) (xs ((x4 + 2) : Int32).toNatClampNeg) (xs ((x4 + 3) : Int32).toNatClampNeg) r3) fun h23 i22 =>
                x_sl L (x4 + 1) <|
                x_sl L (x4 + 2) <|
                x_sl L (x4 + 3) <|
                x_rc h23 r2 8 <| x_nI (f_X8_definition h23 r2 (xs ((x4 + 1) : Int32).toNatClampNeg) (xs ((x4 + 2) : Int32).toNatClampNeg) (xs ((x4 + 3) : Int32).toNatClampNeg)) fun h25 i24 =>
                x_rc h25 r2 8 <| x_nI (f_X8_thrown h25 r2) fun h27 i26 =>
                if i26 = i22 then
                  (
                    if i22 = 0 then
                      (
                        x_aJ h27 r3 0 fun j28 =>
                        if (lg_cmp j28 ((i24 : Int32).toInt64)) = 0 then
                          (
                            f_L_law_b411 L xs k23 h27 r1 r2 r3 x4
                          )
                        else
                          (
                            none
                          )
                      )
                    else
                      (
                        f_L_law_b411 L xs k23 h27 r1 r2 r3 x4
                      )
                  )
                else
                  (
                    none
                  )
              )
            else
              (
              if ((xs (x4 : Int32).toNatClampNeg) &&& 31) = 4 then
                (
                  x_sl L (x4 + 1) <|
                  x_sl L (x4 + 2) <|
                  x_sl L (x4 + 3) <|
                  x_nI (f_L_set h r1 (xs ((x4 + 1) : Int32).toNatClampNeg) (xs ((x4 + 2) : Int32).toNatClampNeg) (xs ((x4 + 3) : Int32).toNatClampNeg) r3) fun h30 i29 =>
                  x_sl L (x4 + 1) <|
                  x_sl L (x4 + 2) <|
                  x_sl L (x4 + 3) <|
                  x_rc h30 r2 8 <| x_nI (f_X8_set h30 r2 (xs ((x4 + 1) : Int32).toNatClampNeg) (xs ((x4 + 2) : Int32).toNatClampNeg) (xs ((x4 + 3) : Int32).toNatClampNeg)) fun h32 i31 =>
                  x_rc h32 r2 8 <| x_nI (f_X8_thrown h32 r2) fun h34 i33 =>
                  if i33 = i29 then
                    (
                      if i29 = 0 then
                        (
                          x_aJ h34 r3 0 fun j35 =>
                          if (lg_cmp j35 ((i31 : Int32).toInt64)) = 0 then
                            (
                              f_L_law_b491 L xs k23 h34 r1 r2 r3 x4
                            )
                          else
                            (
                              none
                            )
                        )
                      else
                        (
                          f_L_law_b491 L xs k23 h34 r1 r2 r3 x4
                        )
                    )
                  else
                    (
                      none
                    )
                )
              else
                (
                if ((xs (x4 : Int32).toNatClampNeg) &&& 31) = 5 then
                  (
                    x_sl L (x4 + 1) <|
                    x_sl L (x4 + 2) <|
                    if (xs ((x4 + 2) : Int32).toNatClampNeg) = 0 then
                      (
                        f_L_law_b515 L xs k23 h 0 (xs ((x4 + 1) : Int32).toNatClampNeg) r1 r1 r2 r3 x4
                      )
                    else
                      (
                        f_L_law_b515 L xs k23 h 1 (xs ((x4 + 1) : Int32).toNatClampNeg) r1 r1 r2 r3 x4
                      )
                  )
                else
                  (
                  if ((xs (x4 : Int32).toNatClampNeg) &&& 31) = 6 then
                    (
                      x_sl L (x4 + 1) <|
                      x_sl L (x4 + 2) <|
                      x_sl L (x4 + 3) <|
                      x_sl L (x4 + 4) <|
                      x_nI (f_L_addItem h r1 (xs ((x4 + 1) : Int32).toNatClampNeg) (xs ((x4 + 2) : Int32).toNatClampNeg) (xs ((x4 + 3) : Int32).toNatClampNeg) (xs ((x4 + 4) : Int32).toNatClampNeg) r3) fun h37 i36 =>
                      x_sl L (x4 + 1) <|
                      x_sl L (x4 + 2) <|
                      x_sl L (x4 + 3) <|
                      x_sl L (x4 + 4) <|
                      x_rc h37 r2 8 <| x_nI (f_X8_addItem h37 r2 (xs ((x4 + 1) : Int32).toNatClampNeg) (xs ((x4 + 2) : Int32).toNatClampNeg) (xs ((x4 + 3) : Int32).toNatClampNeg) (xs ((x4 + 4) : Int32).toNatClampNeg)) fun h39 i38 =>
                      x_rc h39 r2 8 <| x_nI (f_X8_thrown h39 r2) fun h41 i40 =>
                      if i40 = i36 then
                        (
                          if i36 = 0 then
                            (
                              x_aJ h41 r3 0 fun j42 =>
                              if (lg_cmp j42 ((i38 : Int32).toInt64)) = 0 then
                                (
                                  f_L_law_b667 L xs k23 h41 r1 r2 r3 x4
                                )
                              else
                                (
                                  none
                                )
                            )
                          else
                            (
                              f_L_law_b667 L xs k23 h41 r1 r2 r3 x4
                            )
                        )
                      else
                        (
                          none
                        )
                    )
                  else
                    (
                    if ((xs (x4 : Int32).toNatClampNeg) &&& 31) = 7 then
                      (
                        x_sl L (x4 + 1) <|
                        x_sl L (x4 + 2) <|
                        x_sl L (x4 + 3) <|
                        x_sl L (x4 + 4) <|
                        x_nI (f_L_place h r1 (xs ((x4 + 1) : Int32).toNatClampNeg) (xs ((x4 + 2) : Int32).toNatClampNeg) (xs ((x4 + 3) : Int32).toNatClampNeg) (xs ((x4 + 4) : Int32).toNatClampNeg) r3) fun h44 i43 =>
                        x_sl L (x4 + 1) <|
                        x_sl L (x4 + 2) <|
                        x_sl L (x4 + 3) <|
                        x_sl L (x4 + 4) <|
                        x_rc h44 r2 8 <| x_nI (f_X8_place h44 r2 (xs ((x4 + 1) : Int32).toNatClampNeg) (xs ((x4 + 2) : Int32).toNatClampNeg) (xs ((x4 + 3) : Int32).toNatClampNeg) (xs ((x4 + 4) : Int32).toNatClampNeg)) fun h46 i45 =>
                        x_rc h46 r2 8 <| x_nI (f_X8_thrown h46 r2) fun h48 i47 =>
                        if i47 = i43 then
                          (
                            if i43 = 0 then
                              (
                                x_aJ h48 r3 0 fun j49 =>
                                if (lg_cmp j49 ((i45 : Int32).toInt64)) = 0 then
                                  (
                                    f_L_law_b759 L xs k23 h48 r1 r2 r3 x4
                                  )
                                else
                                  (
                                    none
                                  )
                              )
                            else
                              (
                                f_L_law_b759 L xs k23 h48 r1 r2 r3 x4
                              )
                          )
                        else
                          (
                            none
                          )
                      )
                    else
                      (
                      if ((xs (x4 : Int32).toNatClampNeg) &&& 31) = 8 then
                        (
                          x_sl L (x4 + 1) <|
                          x_sl L (x4 + 2) <|
                          x_sl L (x4 + 3) <|
                          x_nI (f_L_align h r1 (xs ((x4 + 1) : Int32).toNatClampNeg) (xs ((x4 + 2) : Int32).toNatClampNeg) (xs ((x4 + 3) : Int32).toNatClampNeg) r3) fun h51 i50 =>
                          x_sl L (x4 + 1) <|
                          x_sl L (x4 + 2) <|
                          x_sl L (x4 + 3) <|
                          x_rc h51 r2 8 <| x_nI (f_X8_align h51 r2 (xs ((x4 + 1) : Int32).toNatClampNeg) (xs ((x4 + 2) : Int32).toNatClampNeg) (xs ((x4 + 3) : Int32).toNatClampNeg)) fun h53 i52 =>
                          x_rc h53 r2 8 <| x_nI (f_X8_thrown h53 r2) fun h55 i54 =>
                          if i54 = i50 then
                            (
                              if i50 = 0 then
                                (
                                  x_aJ h55 r3 0 fun j56 =>
                                  if (lg_cmp j56 ((i52 : Int32).toInt64)) = 0 then
                                    (
                                      f_L_law_b839 L xs k23 h55 r1 r2 r3 x4
                                    )
                                  else
                                    (
                                      none
                                    )
                                )
                              else
                                (
                                  f_L_law_b839 L xs k23 h55 r1 r2 r3 x4
                                )
                            )
                          else
                            (
                              none
                            )
                        )
                      else
                        (
                        if ((xs (x4 : Int32).toNatClampNeg) &&& 31) = 9 then
                          (
                            x_sl L (x4 + 1) <|
                            x_sl L (x4 + 2) <|
                            x_sl L (x4 + 3) <|
                            if (xs ((x4 + 3) : Int32).toNatClampNeg) = 0 then
                              (
                                f_L_law_b869 L xs k23 h 0 (xs ((x4 + 2) : Int32).toNatClampNeg) (xs ((x4 + 1) : Int32).toNatClampNeg) r1 r1 r2 r3 x4
                              )
                            else
                              (
                                f_L_law_b869 L xs k23 h 1 (xs ((x4 + 2) : Int32).toNatClampNeg) (xs ((x4 + 1) : Int32).toNatClampNeg) r1 r1 r2 r3 x4
                              )
                          )
                        else
                          (
                          if ((xs (x4 : Int32).toNatClampNeg) &&& 31) = 10 then
                            (
                              x_sl L (x4 + 1) <|
                              x_nI (f_L_removeItem h r1 (xs ((x4 + 1) : Int32).toNatClampNeg) r3) fun h58 i57 =>
                              x_sl L (x4 + 1) <|
                              x_rc h58 r2 8 <| x_nI (f_X8_removeItem h58 r2 (xs ((x4 + 1) : Int32).toNatClampNeg)) fun h60 i59 =>
                              x_rc h60 r2 8 <| x_nI (f_X8_thrown h60 r2) fun h62 i61 =>
                              if i61 = i57 then
                                (
                                  if i57 = 0 then
                                    (
                                      x_aJ h62 r3 0 fun j63 =>
                                      if (lg_cmp j63 ((i59 : Int32).toInt64)) = 0 then
                                        (
                                          f_L_law_b1003 L xs k23 h62 r1 r2 r3 x4
                                        )
                                      else
                                        (
                                          none
                                        )
                                    )
                                  else
                                    (
                                      f_L_law_b1003 L xs k23 h62 r1 r2 r3 x4
                                    )
                                )
                              else
                                (
                                  none
                                )
                            )
                          else
                            (
                            if ((xs (x4 : Int32).toNatClampNeg) &&& 31) = 11 then
                              (
                                x_sl L (x4 + 1) <|
                                x_sl L (x4 + 2) <|
                                x_nI (f_L_exchange h r1 (xs ((x4 + 1) : Int32).toNatClampNeg) (xs ((x4 + 2) : Int32).toNatClampNeg) r3) fun h65 i64 =>
                                x_sl L (x4 + 1) <|
                                x_sl L (x4 + 2) <|
                                x_rc h65 r2 8 <| x_nI (f_X8_exchange h65 r2 (xs ((x4 + 1) : Int32).toNatClampNeg) (xs ((x4 + 2) : Int32).toNatClampNeg)) fun h67 i66 =>
                                x_rc h67 r2 8 <| x_nI (f_X8_thrown h67 r2) fun h69 i68 =>
                                if i68 = i64 then
                                  (
                                    if i64 = 0 then
                                      (
                                        x_aJ h69 r3 0 fun j70 =>
                                        if (lg_cmp j70 ((i66 : Int32).toInt64)) = 0 then
                                          (
                                            f_L_law_b1071 L xs k23 h69 r1 r2 r3 x4
                                          )
                                        else
                                          (
                                            none
                                          )
                                      )
                                    else
                                      (
                                        f_L_law_b1071 L xs k23 h69 r1 r2 r3 x4
                                      )
                                  )
                                else
                                  (
                                    none
                                  )
                              )
                            else
                              (
                              if ((xs (x4 : Int32).toNatClampNeg) &&& 31) = 12 then
                                (
                                  x_rc h r1 7 <| x_nI (f_X7_items h r1) fun h72 i71 =>
                                  x_rc h72 r2 8 <| x_nI (f_X8_items h72 r2) fun h74 i73 =>
                                  if i71 = i73 then
                                    (
                                      f_L_law_b2070 L xs k23 h74 r1 r2 r3 x4
                                    )
                                  else
                                    (
                                      none
                                    )
                                )
                              else
                                (
                                if ((xs (x4 : Int32).toNatClampNeg) &&& 31) = 13 then
                                  (
                                    x_sl L (x4 + 1) <|
                                    x_nI (f_L_tracks h r1 (xs ((x4 + 1) : Int32).toNatClampNeg) r3) fun h76 i75 =>
                                    x_sl L (x4 + 1) <|
                                    x_rc h76 r2 8 <| x_nI (f_X8_tracks h76 r2 (xs ((x4 + 1) : Int32).toNatClampNeg)) fun h78 i77 =>
                                    x_rc h78 r2 8 <| x_nI (f_X8_thrown h78 r2) fun h80 i79 =>
                                    if i79 = i75 then
                                      (
                                        if i75 = 0 then
                                          (
                                            x_aJ h80 r3 0 fun j81 =>
                                            if (lg_cmp j81 ((i77 : Int32).toInt64)) = 0 then
                                              (
                                                f_L_law_b1140 L xs k23 h80 r1 r2 r3 x4
                                              )
                                            else
                                              (
                                                none
                                              )
                                          )
                                        else
                                          (
                                            f_L_law_b1140 L xs k23 h80 r1 r2 r3 x4
                                          )
                                      )
                                    else
                                      (
                                        none
                                      )
                                  )
                                else
                                  (
                                  if ((xs (x4 : Int32).toNatClampNeg) &&& 31) = 14 then
                                    (
                                      x_sl L (x4 + 1) <|
                                      x_sl L (x4 + 2) <|
                                      x_nI (f_L_startOf h r1 (xs ((x4 + 1) : Int32).toNatClampNeg) (xs ((x4 + 2) : Int32).toNatClampNeg) r3) fun h83 i82 =>
                                      x_sl L (x4 + 1) <|
                                      x_sl L (x4 + 2) <|
                                      x_rc h83 r2 8 <| x_nI (f_X8_startOf h83 r2 (xs ((x4 + 1) : Int32).toNatClampNeg) (xs ((x4 + 2) : Int32).toNatClampNeg)) fun h85 i84 =>
                                      x_rc h85 r2 8 <| x_nI (f_X8_thrown h85 r2) fun h87 i86 =>
                                      if i86 = i82 then
                                        (
                                          if i82 = 0 then
                                            (
                                              x_aJ h87 r3 0 fun j88 =>
                                              if (lg_cmp j88 ((i84 : Int32).toInt64)) = 0 then
                                                (
                                                  f_L_law_b1208 L xs k23 h87 r1 r2 r3 x4
                                                )
                                              else
                                                (
                                                  none
                                                )
                                            )
                                          else
                                            (
                                              f_L_law_b1208 L xs k23 h87 r1 r2 r3 x4
                                            )
                                        )
                                      else
                                        (
                                          none
                                        )
                                    )
                                  else
                                    (
                                    if ((xs (x4 : Int32).toNatClampNeg) &&& 31) = 15 then
                                      (
                                        x_sl L (x4 + 1) <|
                                        x_sl L (x4 + 2) <|
                                        x_nI (f_L_itemIn h r1 (xs ((x4 + 1) : Int32).toNatClampNeg) (xs ((x4 + 2) : Int32).toNatClampNeg) r3) fun h90 i89 =>
                                        x_sl L (x4 + 1) <|
                                        x_sl L (x4 + 2) <|
                                        x_rc h90 r2 8 <| x_nI (f_X8_itemIn h90 r2 (xs ((x4 + 1) : Int32).toNatClampNeg) (xs ((x4 + 2) : Int32).toNatClampNeg)) fun h92 i91 =>
                                        x_rc h92 r2 8 <| x_nI (f_X8_thrown h92 r2) fun h94 i93 =>
                                        if i93 = i89 then
                                          (
                                            if i89 = 0 then
                                              (
                                                x_aJ h94 r3 0 fun j95 =>
                                                if (lg_cmp j95 ((i91 : Int32).toInt64)) = 0 then
                                                  (
                                                    f_L_law_b1276 L xs k23 h94 r1 r2 r3 x4
                                                  )
                                                else
                                                  (
                                                    none
                                                  )
                                              )
                                            else
                                              (
                                                f_L_law_b1276 L xs k23 h94 r1 r2 r3 x4
                                              )
                                          )
                                        else
                                          (
                                            none
                                          )
                                      )
                                    else
                                      (
                                      if ((xs (x4 : Int32).toNatClampNeg) &&& 31) = 16 then
                                        (
                                          x_sl L (x4 + 1) <|
                                          x_nI (f_L_cells h r1 (xs ((x4 + 1) : Int32).toNatClampNeg) r3) fun h97 i96 =>
                                          x_sl L (x4 + 1) <|
                                          x_rc h97 r2 8 <| x_nI (f_X8_cells h97 r2 (xs ((x4 + 1) : Int32).toNatClampNeg)) fun h99 i98 =>
                                          x_rc h99 r2 8 <| x_nI (f_X8_thrown h99 r2) fun h101 i100 =>
                                          if i100 = i96 then
                                            (
                                              if i96 = 0 then
                                                (
                                                  x_aJ h101 r3 0 fun j102 =>
                                                  if (lg_cmp j102 ((i98 : Int32).toInt64)) = 0 then
                                                    (
                                                      f_L_law_b1332 L xs k23 h101 r1 r2 r3 x4
                                                    )
                                                  else
                                                    (
                                                      none
                                                    )
                                                )
                                              else
                                                (
                                                  f_L_law_b1332 L xs k23 h101 r1 r2 r3 x4
                                                )
                                            )
                                          else
                                            (
                                              none
                                            )
                                        )
                                      else
                                        (
                                        if ((xs (x4 : Int32).toNatClampNeg) &&& 31) = 17 then
                                          (
                                            x_sl L (x4 + 1) <|
                                            x_sl L (x4 + 2) <|
                                            x_sl L (x4 + 3) <|
                                            x_nI (f_L_size h r1 (xs ((x4 + 1) : Int32).toNatClampNeg) (xs ((x4 + 2) : Int32).toNatClampNeg) (xs ((x4 + 3) : Int32).toNatClampNeg) r3) fun h104 i103 =>
                                            x_sl L (x4 + 1) <|
                                            x_sl L (x4 + 2) <|
                                            x_sl L (x4 + 3) <|
                                            x_rc h104 r2 8 <| x_nI (f_X8_size h104 r2 (xs ((x4 + 1) : Int32).toNatClampNeg) (xs ((x4 + 2) : Int32).toNatClampNeg) (xs ((x4 + 3) : Int32).toNatClampNeg)) fun h106 i105 =>
                                            x_rc h106 r2 8 <| x_nI (f_X8_thrown h106 r2) fun h108 i107 =>
                                            if i107 = i103 then
                                              (
                                                if i103 = 0 then
                                                  (
                                                    x_aJ h108 r3 0 fun j109 =>
                                                    if (lg_cmp j109 ((i105 : Int32).toInt64)) = 0 then
                                                      (
                                                        f_L_law_b1412 L xs k23 h108 r1 r2 r3 x4
                                                      )
                                                    else
                                                      (
                                                        none
                                                      )
                                                  )
                                                else
                                                  (
                                                    f_L_law_b1412 L xs k23 h108 r1 r2 r3 x4
                                                  )
                                              )
                                            else
                                              (
                                                none
                                              )
                                          )
                                        else
                                          (
                                          if ((xs (x4 : Int32).toNatClampNeg) &&& 31) = 18 then
                                            (
                                              x_sl L (x4 + 1) <|
                                              x_sl L (x4 + 2) <|
                                              x_nI (f_L_isCollapsed h r1 (xs ((x4 + 1) : Int32).toNatClampNeg) (xs ((x4 + 2) : Int32).toNatClampNeg) r3) fun h111 i110 =>
                                              x_sl L (x4 + 1) <|
                                              x_sl L (x4 + 2) <|
                                              x_rc h111 r2 8 <| x_nI (f_X8_isCollapsed h111 r2 (xs ((x4 + 1) : Int32).toNatClampNeg) (xs ((x4 + 2) : Int32).toNatClampNeg)) fun h113 i112 =>
                                              x_rc h113 r2 8 <| x_nI (f_X8_thrown h113 r2) fun h115 i114 =>
                                              if i114 = i110 then
                                                (
                                                  if i110 = 0 then
                                                    (
                                                      x_aJ h115 r3 0 fun j116 =>
                                                      if i112 = 0 then
                                                        (
                                                          f_L_law_b1481 L xs k23 h115 0 j116 r1 r2 r3 x4
                                                        )
                                                      else
                                                        (
                                                          f_L_law_b1481 L xs k23 h115 1 j116 r1 r2 r3 x4
                                                        )
                                                    )
                                                  else
                                                    (
                                                      f_L_law_b1487 L xs k23 h115 r1 r2 r3 x4
                                                    )
                                                )
                                              else
                                                (
                                                  none
                                                )
                                            )
                                          else
                                            (
                                            if ((xs (x4 : Int32).toNatClampNeg) &&& 31) = 19 then
                                              (
                                                x_sl L (x4 + 1) <|
                                                x_sl L (x4 + 2) <|
                                                x_nI (f_L_position h r1 (xs ((x4 + 1) : Int32).toNatClampNeg) (xs ((x4 + 2) : Int32).toNatClampNeg) r3) fun h118 i117 =>
                                                x_sl L (x4 + 1) <|
                                                x_sl L (x4 + 2) <|
                                                x_rc h118 r2 8 <| x_nI (f_X8_position h118 r2 (xs ((x4 + 1) : Int32).toNatClampNeg) (xs ((x4 + 2) : Int32).toNatClampNeg)) fun h120 i119 =>
                                                x_rc h120 r2 8 <| x_nI (f_X8_thrown h120 r2) fun h122 i121 =>
                                                if i121 = i117 then
                                                  (
                                                    if i117 = 0 then
                                                      (
                                                        x_aJ h122 r3 0 fun j123 =>
                                                        if (lg_cmp j123 ((i119 : Int32).toInt64)) = 0 then
                                                          (
                                                            f_L_law_b1555 L xs k23 h122 r1 r2 r3 x4
                                                          )
                                                        else
                                                          (
                                                            none
                                                          )
                                                      )
                                                    else
                                                      (
                                                        f_L_law_b1555 L xs k23 h122 r1 r2 r3 x4
                                                      )
                                                  )
                                                else
                                                  (
                                                    none
                                                  )
                                              )
                                            else
                                              (
                                              if ((xs (x4 : Int32).toNatClampNeg) &&& 31) = 20 then
                                                (
                                                  x_sl L (x4 + 1) <|
                                                  x_sl L (x4 + 2) <|
                                                  x_nI (f_L_total h r1 (xs ((x4 + 1) : Int32).toNatClampNeg) (xs ((x4 + 2) : Int32).toNatClampNeg) r3) fun h125 i124 =>
                                                  x_sl L (x4 + 1) <|
                                                  x_sl L (x4 + 2) <|
                                                  x_rc h125 r2 8 <| x_nI (f_X8_total h125 r2 (xs ((x4 + 1) : Int32).toNatClampNeg) (xs ((x4 + 2) : Int32).toNatClampNeg)) fun h127 i126 =>
                                                  x_rc h127 r2 8 <| x_nI (f_X8_thrown h127 r2) fun h129 i128 =>
                                                  if i128 = i124 then
                                                    (
                                                      if i124 = 0 then
                                                        (
                                                          x_aJ h129 r3 0 fun j130 =>
                                                          if (lg_cmp j130 ((i126 : Int32).toInt64)) = 0 then
                                                            (
                                                              f_L_law_b1623 L xs k23 h129 r1 r2 r3 x4
                                                            )
                                                          else
                                                            (
                                                              none
                                                            )
                                                        )
                                                      else
                                                        (
                                                          f_L_law_b1623 L xs k23 h129 r1 r2 r3 x4
                                                        )
                                                    )
                                                  else
                                                    (
                                                      none
                                                    )
                                                )
                                              else
                                                (
                                                if ((xs (x4 : Int32).toNatClampNeg) &&& 31) = 21 then
                                                  (
                                                    x_sl L (x4 + 1) <|
                                                    x_nI (f_L_free h r1 (xs ((x4 + 1) : Int32).toNatClampNeg) r3) fun h132 i131 =>
                                                    x_sl L (x4 + 1) <|
                                                    x_rc h132 r2 8 <| x_nI (f_X8_free h132 r2 (xs ((x4 + 1) : Int32).toNatClampNeg)) fun h134 i133 =>
                                                    x_rc h134 r2 8 <| x_nI (f_X8_thrown h134 r2) fun h136 i135 =>
                                                    if i135 = i131 then
                                                      (
                                                        if i131 = 0 then
                                                          (
                                                            x_aJ h136 r3 0 fun j137 =>
                                                            if (lg_cmp j137 ((i133 : Int32).toInt64)) = 0 then
                                                              (
                                                                f_L_law_b1679 L xs k23 h136 r1 r2 r3 x4
                                                              )
                                                            else
                                                              (
                                                                none
                                                              )
                                                          )
                                                        else
                                                          (
                                                            f_L_law_b1679 L xs k23 h136 r1 r2 r3 x4
                                                          )
                                                      )
                                                    else
                                                      (
                                                        none
                                                      )
                                                  )
                                                else
                                                  (
                                                  if ((xs (x4 : Int32).toNatClampNeg) &&& 31) = 22 then
                                                    (
                                                      x_sl L (x4 + 1) <|
                                                      x_sl L (x4 + 2) <|
                                                      x_sl L (x4 + 3) <|
                                                      x_nI (f_L_box h r1 (xs ((x4 + 1) : Int32).toNatClampNeg) (xs ((x4 + 2) : Int32).toNatClampNeg) (xs ((x4 + 3) : Int32).toNatClampNeg) r3) fun h139 i138 =>
                                                      x_sl L (x4 + 1) <|
                                                      x_sl L (x4 + 2) <|
                                                      x_sl L (x4 + 3) <|
                                                      x_rc h139 r2 8 <| x_nI (f_X8_box h139 r2 (xs ((x4 + 1) : Int32).toNatClampNeg) (xs ((x4 + 2) : Int32).toNatClampNeg) (xs ((x4 + 3) : Int32).toNatClampNeg)) fun h141 i140 =>
                                                      x_rc h141 r2 8 <| x_nI (f_X8_thrown h141 r2) fun h143 i142 =>
                                                      if i142 = i138 then
                                                        (
                                                          if i138 = 0 then
                                                            (
                                                              x_aJ h143 r3 0 fun j144 =>
                                                              if (lg_cmp j144 ((i140 : Int32).toInt64)) = 0 then
                                                                (
                                                                  f_L_law_b1759 L xs k23 h143 r1 r2 r3 x4
                                                                )
                                                              else
                                                                (
                                                                  none
                                                                )
                                                            )
                                                          else
                                                            (
                                                              f_L_law_b1759 L xs k23 h143 r1 r2 r3 x4
                                                            )
                                                        )
                                                      else
                                                        (
                                                          none
                                                        )
                                                    )
                                                  else
                                                    (
                                                    if ((xs (x4 : Int32).toNatClampNeg) &&& 31) = 23 then
                                                      (
                                                        x_sl L (x4 + 1) <|
                                                        x_sl L (x4 + 2) <|
                                                        if (xs ((x4 + 2) : Int32).toNatClampNeg) = 0 then
                                                          (
                                                            f_L_law_b1783 L xs k23 h 0 (xs ((x4 + 1) : Int32).toNatClampNeg) r1 r1 r2 r3 x4
                                                          )
                                                        else
                                                          (
                                                            f_L_law_b1783 L xs k23 h 1 (xs ((x4 + 1) : Int32).toNatClampNeg) r1 r1 r2 r3 x4
                                                          )
                                                      )
                                                    else
                                                      (
                                                      if ((xs (x4 : Int32).toNatClampNeg) &&& 31) = 24 then
                                                        (
                                                          x_sl L (x4 + 1) <|
                                                          x_sl L (x4 + 2) <|
                                                          x_nI (f_L_itemUnder h r1 (xs ((x4 + 1) : Int32).toNatClampNeg) (xs ((x4 + 2) : Int32).toNatClampNeg) r3) fun h146 i145 =>
                                                          x_sl L (x4 + 1) <|
                                                          x_sl L (x4 + 2) <|
                                                          x_rc h146 r2 8 <| x_nI (f_X8_itemUnder h146 r2 (xs ((x4 + 1) : Int32).toNatClampNeg) (xs ((x4 + 2) : Int32).toNatClampNeg)) fun h148 i147 =>
                                                          x_rc h148 r2 8 <| x_nI (f_X8_thrown h148 r2) fun h150 i149 =>
                                                          if i149 = i145 then
                                                            (
                                                              if i145 = 0 then
                                                                (
                                                                  x_aJ h150 r3 0 fun j151 =>
                                                                  if (lg_cmp j151 ((i147 : Int32).toInt64)) = 0 then
                                                                    (
                                                                      f_L_law_b1911 L xs k23 h150 r1 r2 r3 x4
                                                                    )
                                                                  else
                                                                    (
                                                                      none
                                                                    )
                                                                )
                                                              else
                                                                (
                                                                  f_L_law_b1911 L xs k23 h150 r1 r2 r3 x4
                                                                )
                                                            )
                                                          else
                                                            (
                                                              none
                                                            )
                                                        )
                                                      else
                                                        (
                                                        if ((xs (x4 : Int32).toNatClampNeg) &&& 31) = 25 then
                                                          (
                                                            x_sl L (x4 + 1) <|
                                                            x_nI (f_L_save h r1 (xs ((x4 + 1) : Int32).toNatClampNeg) r3) fun h153 i152 =>
                                                            x_sl L (x4 + 1) <|
                                                            x_rc h153 r2 8 <| x_nI (f_X8_save h153 r2 (xs ((x4 + 1) : Int32).toNatClampNeg)) fun h155 i154 =>
                                                            x_rc h155 r2 8 <| x_nI (f_X8_thrown h155 r2) fun h157 i156 =>
                                                            if i156 = i152 then
                                                              (
                                                                if i152 = 0 then
                                                                  (
                                                                    x_aJ h157 r3 0 fun j158 =>
                                                                    if (lg_cmp j158 ((i154 : Int32).toInt64)) = 0 then
                                                                      (
                                                                        f_L_law_b1967 L xs k23 h157 r1 r2 r3 x4
                                                                      )
                                                                    else
                                                                      (
                                                                        none
                                                                      )
                                                                  )
                                                                else
                                                                  (
                                                                    f_L_law_b1967 L xs k23 h157 r1 r2 r3 x4
                                                                  )
                                                              )
                                                            else
                                                              (
                                                                none
                                                              )
                                                          )
                                                        else
                                                          (
                                                          if ((xs (x4 : Int32).toNatClampNeg) &&& 31) = 26 then
                                                            (
                                                              x_sl L (x4 + 1) <|
                                                              x_nI (f_L_restore h r1 (xs ((x4 + 1) : Int32).toNatClampNeg) r3) fun h160 i159 =>
                                                              x_sl L (x4 + 1) <|
                                                              x_rc h160 r2 8 <| x_nI (f_X8_restore h160 r2 (xs ((x4 + 1) : Int32).toNatClampNeg)) fun h162 i161 =>
                                                              x_rc h162 r2 8 <| x_nI (f_X8_thrown h162 r2) fun h164 i163 =>
                                                              if i163 = i159 then
                                                                (
                                                                  if i159 = 0 then
                                                                    (
                                                                      x_aJ h164 r3 0 fun j165 =>
                                                                      if (lg_cmp j165 ((i161 : Int32).toInt64)) = 0 then
                                                                        (
                                                                          f_L_law_b2023 L xs k23 h164 r1 r2 r3 x4
                                                                        )
                                                                      else
                                                                        (
                                                                          none
                                                                        )
                                                                    )
                                                                  else
                                                                    (
                                                                      f_L_law_b2023 L xs k23 h164 r1 r2 r3 x4
                                                                    )
                                                                )
                                                              else
                                                                (
                                                                  none
                                                                )
                                                            )
                                                          else
                                                            (
                                                            if ((xs (x4 : Int32).toNatClampNeg) &&& 31) = 27 then
                                                              (
                                                                x_nI (f_L_undo h r1 r3) fun h167 i166 =>
                                                                x_rc h167 r2 8 <| x_nI (f_X8_undo h167 r2) fun h169 i168 =>
                                                                x_rc h169 r2 8 <| x_nI (f_X8_thrown h169 r2) fun h171 i170 =>
                                                                if i170 = i166 then
                                                                  (
                                                                    if i166 = 0 then
                                                                      (
                                                                        x_aJ h171 r3 0 fun j172 =>
                                                                        if (lg_cmp j172 ((i168 : Int32).toInt64)) = 0 then
                                                                          (
                                                                            f_L_law_b2067 L xs k23 h171 r1 r2 r3 x4
                                                                          )
                                                                        else
                                                                          (
                                                                            none
                                                                          )
                                                                      )
                                                                    else
                                                                      (
                                                                        f_L_law_b2067 L xs k23 h171 r1 r2 r3 x4
                                                                      )
                                                                  )
                                                                else
                                                                  (
                                                                    none
                                                                  )
                                                              )
                                                            else
                                                              (
                                                              f_L_law_b2070 L xs k23 h r1 r2 r3 x4
                                                              )
                                                            )
                                                          )
                                                        )
                                                      )
                                                    )
                                                  )
                                                )
                                              )
                                            )
                                          )
                                        )
                                      )
                                    )
                                  )
                                )
                              )
                            )
                          )
                        )
                      )
                    )
                  )
                )
              )
            )
          )
        )
    )
def f_L_law_L23 (L : Nat) (xs : Nat → Int32) : Nat → HP → Nat → Nat → Nat → Int32 → Option XR
  | 0 => fun _ _ _ _ _ => none
  | n + 1 => f_L_law_b23 L xs (f_L_law_L23 L xs n)
def f_L_law (L : Nat) (xs : Nat → Int32) (h : HP) : Option XR :=
  x_no h 7 fun h2 a1 =>
  x_nV (f_X7_init h2 a1) fun h3 =>
  x_no h3 8 fun h5 a4 =>
  x_nV (f_X8_init h5 a4) fun h6 =>
  x_na h6 3 1 fun h8 a7 =>
  f_L_law_L23 L xs 514 h8 a1 a4 a7 0
set_option maxRecDepth 100000 in
set_option maxHeartbeats 8000000 in
theorem s_L_law_b2070 {p : Program} {l : Launch} {e : Env} {s : State} {m : MethodId} {below : List Frame} {meth : Method} {c : Code} {E : XE} {z : XR} {nm : String} {b L : Nat} {xs : Nat → Int32} (hE : E.1 = s.heap.size) (C0 : x_C E p l s m meth c #[Value.ref b] cL_law 7 "GridEngineLaw" nm ret) (hX : va_X b L xs s s.heap) (hbl : b < s.heap.size) (hbA : ¬ x_A E b) {N : Nat} {k23 : HP → Nat → Nat → Nat → Int32 → Option XR} (hk23 : ∀ (h : HP) (r1 : Nat) (r2 : Nat) (r3 : Nat) (x4 : Int32) (H : Heap) (locs : List Loc) (ls : Array Slot) (kc ks : Nat), kc + N * 16 ≤ 600000 → ks + N * 96 ≤ 7290000 → x_Rep E h H → va_S (x_A E) s.heap H locs → lv_has ls 7 [(0, .ref b), (1, .ref (xa E r1)), (2, .ref (xa E r2)), (3, .ref (xa E r3)), (4, .int x4)] → k23 h r1 r2 r3 x4 = some z → W p l e room_1 s m #[Value.ref b] below meth c H locs kc ks (lw_Z below #[Value.ref b] s) (F0 m 23 ls [])) : ∀ (h : HP) (r1 : Nat) (r2 : Nat) (r3 : Nat) (x4 : Int32) (H : Heap) (locs : List Loc) (ls : Array Slot) (kc ks : Nat), kc + N * 16 ≤ 600000 → ks + N * 96 ≤ 7290000 → x_Rep E h H → va_S (x_A E) s.heap H locs → lv_has ls 7 [(0, .ref b), (1, .ref (xa E r1)), (2, .ref (xa E r2)), (3, .ref (xa E r3)), (4, .int x4)] → f_L_law_b2070 L xs k23 h r1 r2 r3 x4 = some z → W p l e room_1 s m #[Value.ref b] below meth c H locs kc ks (lw_Z below #[Value.ref b] s) (F0 m 2070 ls []) := by
  intro h r1 r2 r3 x4 H locs ls kc ks hkc hks hR hS hl hf
  obtain ⟨hx, hb, -⟩ := id C0
  unfold f_L_law_b2070 at hf
  have h0 : x_by cL_law 2070 [132, 4, 5, 167, 247, 254] := by unfold x_by; decide +kernel
  obtain ⟨d2070, h0⟩ := de_iinc (5) (by decide) h0
  obtain ⟨d2073, h0⟩ := de_goto (-2050) (by decide) h0
  refine lv_iinc (v := (x4 + 5)) (lv' := [(4, .int (x4 + 5)), (0, .ref b), (1, .ref (xa E r1)), (2, .ref (xa E r2)), (3, .ref (xa E r3))]) hx hb d2070 hl (k := 4) rfl rfl (by decide) rfl (fun ls hl => ?_)
  refine lv_goto (tgt := 23) hx hb d2073 (by decide) ?_
  exact hk23 _ _ _ _ _ _ _ _ _ _ (by omega) (by omega) hR hS (lv_sub hl [1, 2, 3, 4, 0] rfl) hf
set_option maxRecDepth 100000 in
set_option maxHeartbeats 8000000 in
theorem s_L_law_b219 {p : Program} {l : Launch} {e : Env} {s : State} {m : MethodId} {below : List Frame} {meth : Method} {c : Code} {E : XE} {z : XR} {nm : String} {b L : Nat} {xs : Nat → Int32} (hE : E.1 = s.heap.size) (C0 : x_C E p l s m meth c #[Value.ref b] cL_law 7 "GridEngineLaw" nm ret) (hX : va_X b L xs s s.heap) (hbl : b < s.heap.size) (hbA : ¬ x_A E b) {N : Nat} {k23 : HP → Nat → Nat → Nat → Int32 → Option XR} (hk23 : ∀ (h : HP) (r1 : Nat) (r2 : Nat) (r3 : Nat) (x4 : Int32) (H : Heap) (locs : List Loc) (ls : Array Slot) (kc ks : Nat), kc + N * 16 ≤ 600000 → ks + N * 96 ≤ 7290000 → x_Rep E h H → va_S (x_A E) s.heap H locs → lv_has ls 7 [(0, .ref b), (1, .ref (xa E r1)), (2, .ref (xa E r2)), (3, .ref (xa E r3)), (4, .int x4)] → k23 h r1 r2 r3 x4 = some z → W p l e room_1 s m #[Value.ref b] below meth c H locs kc ks (lw_Z below #[Value.ref b] s) (F0 m 23 ls [])) : ∀ (h : HP) (r1 : Nat) (r2 : Nat) (r3 : Nat) (x4 : Int32) (H : Heap) (locs : List Loc) (ls : Array Slot) (kc ks : Nat), kc + N * 16 ≤ 600000 → ks + N * 96 ≤ 7290000 → x_Rep E h H → va_S (x_A E) s.heap H locs → lv_has ls 7 [(0, .ref b), (1, .ref (xa E r1)), (2, .ref (xa E r2)), (3, .ref (xa E r3)), (4, .int x4)] → f_L_law_b219 L xs k23 h r1 r2 r3 x4 = some z → W p l e room_1 s m #[Value.ref b] below meth c H locs kc ks (lw_Z below #[Value.ref b] s) (F0 m 219 ls []) := by
  intro h r1 r2 r3 x4 H locs ls kc ks hkc hks hR hS hl hf
  obtain ⟨hx, hb, -⟩ := id C0
  unfold f_L_law_b219 at hf
  have h0 : x_by cL_law 219 [167, 7, 59] := by unfold x_by; decide +kernel
  obtain ⟨d219, h0⟩ := de_goto (1851) (by decide) h0
  refine lv_goto (tgt := 2070) hx hb d219 (by decide) ?_
  exact s_L_law_b2070 hE C0 hX hbl hbA hk23 _ _ _ _ _ _ _ _ _ _ (by omega) (by omega) hR hS (lv_sub hl [0, 1, 2, 3, 4] rfl) hf
set_option maxRecDepth 100000 in
set_option maxHeartbeats 8000000 in
theorem s_L_law_b275 {p : Program} {l : Launch} {e : Env} {s : State} {m : MethodId} {below : List Frame} {meth : Method} {c : Code} {E : XE} {z : XR} {nm : String} {b L : Nat} {xs : Nat → Int32} (hE : E.1 = s.heap.size) (C0 : x_C E p l s m meth c #[Value.ref b] cL_law 7 "GridEngineLaw" nm ret) (hX : va_X b L xs s s.heap) (hbl : b < s.heap.size) (hbA : ¬ x_A E b) {N : Nat} {k23 : HP → Nat → Nat → Nat → Int32 → Option XR} (hk23 : ∀ (h : HP) (r1 : Nat) (r2 : Nat) (r3 : Nat) (x4 : Int32) (H : Heap) (locs : List Loc) (ls : Array Slot) (kc ks : Nat), kc + N * 16 ≤ 600000 → ks + N * 96 ≤ 7290000 → x_Rep E h H → va_S (x_A E) s.heap H locs → lv_has ls 7 [(0, .ref b), (1, .ref (xa E r1)), (2, .ref (xa E r2)), (3, .ref (xa E r3)), (4, .int x4)] → k23 h r1 r2 r3 x4 = some z → W p l e room_1 s m #[Value.ref b] below meth c H locs kc ks (lw_Z below #[Value.ref b] s) (F0 m 23 ls [])) : ∀ (h : HP) (r1 : Nat) (r2 : Nat) (r3 : Nat) (x4 : Int32) (H : Heap) (locs : List Loc) (ls : Array Slot) (kc ks : Nat), kc + N * 16 ≤ 600000 → ks + N * 96 ≤ 7290000 → x_Rep E h H → va_S (x_A E) s.heap H locs → lv_has ls 7 [(0, .ref b), (1, .ref (xa E r1)), (2, .ref (xa E r2)), (3, .ref (xa E r3)), (4, .int x4)] → f_L_law_b275 L xs k23 h r1 r2 r3 x4 = some z → W p l e room_1 s m #[Value.ref b] below meth c H locs kc ks (lw_Z below #[Value.ref b] s) (F0 m 275 ls []) := by
  intro h r1 r2 r3 x4 H locs ls kc ks hkc hks hR hS hl hf
  obtain ⟨hx, hb, -⟩ := id C0
  unfold f_L_law_b275 at hf
  have h0 : x_by cL_law 275 [167, 7, 3] := by unfold x_by; decide +kernel
  obtain ⟨d275, h0⟩ := de_goto (1795) (by decide) h0
  refine lv_goto (tgt := 2070) hx hb d275 (by decide) ?_
  exact s_L_law_b2070 hE C0 hX hbl hbA hk23 _ _ _ _ _ _ _ _ _ _ (by omega) (by omega) hR hS (lv_sub hl [0, 1, 2, 3, 4] rfl) hf
set_option maxRecDepth 100000 in
set_option maxHeartbeats 8000000 in
theorem s_L_law_b331 {p : Program} {l : Launch} {e : Env} {s : State} {m : MethodId} {below : List Frame} {meth : Method} {c : Code} {E : XE} {z : XR} {nm : String} {b L : Nat} {xs : Nat → Int32} (hE : E.1 = s.heap.size) (C0 : x_C E p l s m meth c #[Value.ref b] cL_law 7 "GridEngineLaw" nm ret) (hX : va_X b L xs s s.heap) (hbl : b < s.heap.size) (hbA : ¬ x_A E b) {N : Nat} {k23 : HP → Nat → Nat → Nat → Int32 → Option XR} (hk23 : ∀ (h : HP) (r1 : Nat) (r2 : Nat) (r3 : Nat) (x4 : Int32) (H : Heap) (locs : List Loc) (ls : Array Slot) (kc ks : Nat), kc + N * 16 ≤ 600000 → ks + N * 96 ≤ 7290000 → x_Rep E h H → va_S (x_A E) s.heap H locs → lv_has ls 7 [(0, .ref b), (1, .ref (xa E r1)), (2, .ref (xa E r2)), (3, .ref (xa E r3)), (4, .int x4)] → k23 h r1 r2 r3 x4 = some z → W p l e room_1 s m #[Value.ref b] below meth c H locs kc ks (lw_Z below #[Value.ref b] s) (F0 m 23 ls [])) : ∀ (h : HP) (r1 : Nat) (r2 : Nat) (r3 : Nat) (x4 : Int32) (H : Heap) (locs : List Loc) (ls : Array Slot) (kc ks : Nat), kc + N * 16 ≤ 600000 → ks + N * 96 ≤ 7290000 → x_Rep E h H → va_S (x_A E) s.heap H locs → lv_has ls 7 [(0, .ref b), (1, .ref (xa E r1)), (2, .ref (xa E r2)), (3, .ref (xa E r3)), (4, .int x4)] → f_L_law_b331 L xs k23 h r1 r2 r3 x4 = some z → W p l e room_1 s m #[Value.ref b] below meth c H locs kc ks (lw_Z below #[Value.ref b] s) (F0 m 331 ls []) := by
  intro h r1 r2 r3 x4 H locs ls kc ks hkc hks hR hS hl hf
  obtain ⟨hx, hb, -⟩ := id C0
  unfold f_L_law_b331 at hf
  have h0 : x_by cL_law 331 [167, 6, 203] := by unfold x_by; decide +kernel
  obtain ⟨d331, h0⟩ := de_goto (1739) (by decide) h0
  refine lv_goto (tgt := 2070) hx hb d331 (by decide) ?_
  exact s_L_law_b2070 hE C0 hX hbl hbA hk23 _ _ _ _ _ _ _ _ _ _ (by omega) (by omega) hR hS (lv_sub hl [0, 1, 2, 3, 4] rfl) hf
set_option maxRecDepth 100000 in
set_option maxHeartbeats 8000000 in
theorem s_L_law_b411 {p : Program} {l : Launch} {e : Env} {s : State} {m : MethodId} {below : List Frame} {meth : Method} {c : Code} {E : XE} {z : XR} {nm : String} {b L : Nat} {xs : Nat → Int32} (hE : E.1 = s.heap.size) (C0 : x_C E p l s m meth c #[Value.ref b] cL_law 7 "GridEngineLaw" nm ret) (hX : va_X b L xs s s.heap) (hbl : b < s.heap.size) (hbA : ¬ x_A E b) {N : Nat} {k23 : HP → Nat → Nat → Nat → Int32 → Option XR} (hk23 : ∀ (h : HP) (r1 : Nat) (r2 : Nat) (r3 : Nat) (x4 : Int32) (H : Heap) (locs : List Loc) (ls : Array Slot) (kc ks : Nat), kc + N * 16 ≤ 600000 → ks + N * 96 ≤ 7290000 → x_Rep E h H → va_S (x_A E) s.heap H locs → lv_has ls 7 [(0, .ref b), (1, .ref (xa E r1)), (2, .ref (xa E r2)), (3, .ref (xa E r3)), (4, .int x4)] → k23 h r1 r2 r3 x4 = some z → W p l e room_1 s m #[Value.ref b] below meth c H locs kc ks (lw_Z below #[Value.ref b] s) (F0 m 23 ls [])) : ∀ (h : HP) (r1 : Nat) (r2 : Nat) (r3 : Nat) (x4 : Int32) (H : Heap) (locs : List Loc) (ls : Array Slot) (kc ks : Nat), kc + N * 16 ≤ 600000 → ks + N * 96 ≤ 7290000 → x_Rep E h H → va_S (x_A E) s.heap H locs → lv_has ls 7 [(0, .ref b), (1, .ref (xa E r1)), (2, .ref (xa E r2)), (3, .ref (xa E r3)), (4, .int x4)] → f_L_law_b411 L xs k23 h r1 r2 r3 x4 = some z → W p l e room_1 s m #[Value.ref b] below meth c H locs kc ks (lw_Z below #[Value.ref b] s) (F0 m 411 ls []) := by
  intro h r1 r2 r3 x4 H locs ls kc ks hkc hks hR hS hl hf
  obtain ⟨hx, hb, -⟩ := id C0
  unfold f_L_law_b411 at hf
  have h0 : x_by cL_law 411 [167, 6, 123] := by unfold x_by; decide +kernel
  obtain ⟨d411, h0⟩ := de_goto (1659) (by decide) h0
  refine lv_goto (tgt := 2070) hx hb d411 (by decide) ?_
  exact s_L_law_b2070 hE C0 hX hbl hbA hk23 _ _ _ _ _ _ _ _ _ _ (by omega) (by omega) hR hS (lv_sub hl [0, 1, 2, 3, 4] rfl) hf
set_option maxRecDepth 100000 in
set_option maxHeartbeats 8000000 in
theorem s_L_law_b491 {p : Program} {l : Launch} {e : Env} {s : State} {m : MethodId} {below : List Frame} {meth : Method} {c : Code} {E : XE} {z : XR} {nm : String} {b L : Nat} {xs : Nat → Int32} (hE : E.1 = s.heap.size) (C0 : x_C E p l s m meth c #[Value.ref b] cL_law 7 "GridEngineLaw" nm ret) (hX : va_X b L xs s s.heap) (hbl : b < s.heap.size) (hbA : ¬ x_A E b) {N : Nat} {k23 : HP → Nat → Nat → Nat → Int32 → Option XR} (hk23 : ∀ (h : HP) (r1 : Nat) (r2 : Nat) (r3 : Nat) (x4 : Int32) (H : Heap) (locs : List Loc) (ls : Array Slot) (kc ks : Nat), kc + N * 16 ≤ 600000 → ks + N * 96 ≤ 7290000 → x_Rep E h H → va_S (x_A E) s.heap H locs → lv_has ls 7 [(0, .ref b), (1, .ref (xa E r1)), (2, .ref (xa E r2)), (3, .ref (xa E r3)), (4, .int x4)] → k23 h r1 r2 r3 x4 = some z → W p l e room_1 s m #[Value.ref b] below meth c H locs kc ks (lw_Z below #[Value.ref b] s) (F0 m 23 ls [])) : ∀ (h : HP) (r1 : Nat) (r2 : Nat) (r3 : Nat) (x4 : Int32) (H : Heap) (locs : List Loc) (ls : Array Slot) (kc ks : Nat), kc + N * 16 ≤ 600000 → ks + N * 96 ≤ 7290000 → x_Rep E h H → va_S (x_A E) s.heap H locs → lv_has ls 7 [(0, .ref b), (1, .ref (xa E r1)), (2, .ref (xa E r2)), (3, .ref (xa E r3)), (4, .int x4)] → f_L_law_b491 L xs k23 h r1 r2 r3 x4 = some z → W p l e room_1 s m #[Value.ref b] below meth c H locs kc ks (lw_Z below #[Value.ref b] s) (F0 m 491 ls []) := by
  intro h r1 r2 r3 x4 H locs ls kc ks hkc hks hR hS hl hf
  obtain ⟨hx, hb, -⟩ := id C0
  unfold f_L_law_b491 at hf
  have h0 : x_by cL_law 491 [167, 6, 43] := by unfold x_by; decide +kernel
  obtain ⟨d491, h0⟩ := de_goto (1579) (by decide) h0
  refine lv_goto (tgt := 2070) hx hb d491 (by decide) ?_
  exact s_L_law_b2070 hE C0 hX hbl hbA hk23 _ _ _ _ _ _ _ _ _ _ (by omega) (by omega) hR hS (lv_sub hl [0, 1, 2, 3, 4] rfl) hf
set_option maxRecDepth 100000 in
set_option maxHeartbeats 8000000 in
theorem s_L_law_b575 {p : Program} {l : Launch} {e : Env} {s : State} {m : MethodId} {below : List Frame} {meth : Method} {c : Code} {E : XE} {z : XR} {nm : String} {b L : Nat} {xs : Nat → Int32} (hE : E.1 = s.heap.size) (C0 : x_C E p l s m meth c #[Value.ref b] cL_law 7 "GridEngineLaw" nm ret) (hX : va_X b L xs s s.heap) (hbl : b < s.heap.size) (hbA : ¬ x_A E b) {N : Nat} {k23 : HP → Nat → Nat → Nat → Int32 → Option XR} (hk23 : ∀ (h : HP) (r1 : Nat) (r2 : Nat) (r3 : Nat) (x4 : Int32) (H : Heap) (locs : List Loc) (ls : Array Slot) (kc ks : Nat), kc + N * 16 ≤ 600000 → ks + N * 96 ≤ 7290000 → x_Rep E h H → va_S (x_A E) s.heap H locs → lv_has ls 7 [(0, .ref b), (1, .ref (xa E r1)), (2, .ref (xa E r2)), (3, .ref (xa E r3)), (4, .int x4)] → k23 h r1 r2 r3 x4 = some z → W p l e room_1 s m #[Value.ref b] below meth c H locs kc ks (lw_Z below #[Value.ref b] s) (F0 m 23 ls [])) : ∀ (h : HP) (r1 : Nat) (r2 : Nat) (r3 : Nat) (x4 : Int32) (H : Heap) (locs : List Loc) (ls : Array Slot) (kc ks : Nat), kc + N * 16 ≤ 600000 → ks + N * 96 ≤ 7290000 → x_Rep E h H → va_S (x_A E) s.heap H locs → lv_has ls 7 [(0, .ref b), (1, .ref (xa E r1)), (2, .ref (xa E r2)), (3, .ref (xa E r3)), (4, .int x4)] → f_L_law_b575 L xs k23 h r1 r2 r3 x4 = some z → W p l e room_1 s m #[Value.ref b] below meth c H locs kc ks (lw_Z below #[Value.ref b] s) (F0 m 575 ls []) := by
  intro h r1 r2 r3 x4 H locs ls kc ks hkc hks hR hS hl hf
  obtain ⟨hx, hb, -⟩ := id C0
  unfold f_L_law_b575 at hf
  have h0 : x_by cL_law 575 [167, 5, 215] := by unfold x_by; decide +kernel
  obtain ⟨d575, h0⟩ := de_goto (1495) (by decide) h0
  refine lv_goto (tgt := 2070) hx hb d575 (by decide) ?_
  exact s_L_law_b2070 hE C0 hX hbl hbA hk23 _ _ _ _ _ _ _ _ _ _ (by omega) (by omega) hR hS (lv_sub hl [0, 1, 2, 3, 4] rfl) hf
set_option maxRecDepth 100000 in
set_option maxHeartbeats 8000000 in
theorem s_L_law_b542 {p : Program} {l : Launch} {e : Env} {s : State} {m : MethodId} {below : List Frame} {meth : Method} {c : Code} {E : XE} {z : XR} {nm : String} {b L : Nat} {xs : Nat → Int32} (hE : E.1 = s.heap.size) (C0 : x_C E p l s m meth c #[Value.ref b] cL_law 7 "GridEngineLaw" nm ret) (hX : va_X b L xs s s.heap) (hbl : b < s.heap.size) (hbA : ¬ x_A E b) {N : Nat} {k23 : HP → Nat → Nat → Nat → Int32 → Option XR} (hk23 : ∀ (h : HP) (r1 : Nat) (r2 : Nat) (r3 : Nat) (x4 : Int32) (H : Heap) (locs : List Loc) (ls : Array Slot) (kc ks : Nat), kc + N * 16 ≤ 600000 → ks + N * 96 ≤ 7290000 → x_Rep E h H → va_S (x_A E) s.heap H locs → lv_has ls 7 [(0, .ref b), (1, .ref (xa E r1)), (2, .ref (xa E r2)), (3, .ref (xa E r3)), (4, .int x4)] → k23 h r1 r2 r3 x4 = some z → W p l e room_1 s m #[Value.ref b] below meth c H locs kc ks (lw_Z below #[Value.ref b] s) (F0 m 23 ls [])) : ∀ (h : HP) (t0 : Int32) (t1 : Int32) (t2 : Nat) (r1 : Nat) (r2 : Nat) (r3 : Nat) (x4 : Int32) (x5 : Int32) (H : Heap) (locs : List Loc) (ls : Array Slot) (kc ks : Nat), kc + N * 16 ≤ 600000 → ks + N * 96 ≤ 7290000 → x_Rep E h H → va_S (x_A E) s.heap H locs → lv_has ls 7 [(0, .ref b), (1, .ref (xa E r1)), (2, .ref (xa E r2)), (3, .ref (xa E r3)), (4, .int x4), (5, .int x5)] → f_L_law_b542 L xs k23 h t0 t1 t2 r1 r2 r3 x4 x5 = some z → W p l e room_1 s m #[Value.ref b] below meth c H locs kc ks (lw_Z below #[Value.ref b] s) (F0 m 542 ls [.int t0, .int t1, .ref (xa E t2)]) := by
  intro h t0 t1 t2 r1 r2 r3 x4 x5 H locs ls kc ks hkc hks hR hS hl hf
  obtain ⟨hx, hb, -⟩ := id C0
  unfold f_L_law_b542 at hf
  have h0 : x_by cL_law 542 [182, 0, 137, 54, 6, 44, 182, 0, 117, 21, 5, 159, 0, 5] := by unfold x_by; decide +kernel
  obtain ⟨d542, h0⟩ := de_invokevirtual 137 (by decide) h0
  obtain ⟨d545, h0⟩ := de_istore h0
  obtain ⟨d547, h0⟩ := de_aload_n2 h0
  obtain ⟨d548, h0⟩ := de_invokevirtual 117 (by decide) h0
  obtain ⟨d551, h0⟩ := de_iload h0
  obtain ⟨d553, h0⟩ := de_icmp_eq (5) (by decide) h0
  obtain ⟨hs9, hf⟩ := x_if hf
  refine x_thenLI hS hf (fun z0 e0 => x_runV C0 hR hS me_X8_setFlow wi_X8_setFlow wl_X8_setFlow ml_L_137 hs9 xcl_8 (As := [.int t1, .int t0]) (ct_X8_setFlow E l C0.2.2.2.2.2.2.2.1 _ t2 t1 t0) rfl rfl hl.1 (Nat.le_of_ble_eq_true rfl) d542 ⟨(Nat.le_of_ble_eq_true rfl), (Nat.le_of_ble_eq_true rfl)⟩ ⟨(by show _ ≤ 601024; omega), (by show _ ≤ 7293034; omega)⟩ e0) (fun h9 i1 H locs hR hS hf => ?_)
  refine lv_istore (lv' := [(6, .int i1), (0, .ref b), (1, .ref (xa E r1)), (2, .ref (xa E r2)), (3, .ref (xa E r3)), (4, .int x4), (5, .int x5)]) hx hb d545 hl (by decide) rfl (fun ls hl => ?_)
  refine lv_aload_n hx hb d547 rfl (lv_at hl 3 rfl) ?_
  obtain ⟨hs9, hf⟩ := x_if hf
  refine x_thenLI hS hf (fun z0 e0 => x_runV C0 hR hS me_X8_thrown wi_X8_thrown wl_X8_thrown ml_L_117 hs9 xcl_8 (As := []) (ct_X8_thrown E l C0.2.2.2.2.2.2.2.1 _ r2) rfl rfl hl.1 (Nat.le_of_ble_eq_true rfl) d548 ⟨(Nat.le_of_ble_eq_true rfl), (Nat.le_of_ble_eq_true rfl)⟩ ⟨(by show _ ≤ 601024; omega), (by show _ ≤ 7293034; omega)⟩ e0) (fun h9 i3 H locs hR hS hf => ?_)
  refine lv_iload hx hb d551 (lv_at hl 6 rfl) ?_
  refine lv_icmp_eq (tgt := 558) hx hb d553 (by decide) (fun q => ?_) (fun q => ?_)
  · have hf := x_pos q hf
    have h0 : x_by cL_law 558 [21, 5, 154, 0, 15] := by unfold x_by; decide +kernel
    obtain ⟨d558, h0⟩ := de_iload h0
    obtain ⟨d560, h0⟩ := de_if_ne (15) (by decide) h0
    refine lv_iload hx hb d558 (lv_at hl 6 rfl) ?_
    refine lv_if_ne (tgt := 575) hx hb d560 (by decide) (fun q => ?_) (fun q => ?_)
    · have hf := x_neg q hf
      exact s_L_law_b575 hE C0 hX hbl hbA hk23 _ _ _ _ _ _ _ _ _ _ (by omega) (by omega) hR hS (lv_sub hl [1, 2, 3, 4, 5] rfl) hf
    · have hf := x_pos q hf
      have h0 : x_by cL_law 563 [45, 3, 47, 21, 6, 133, 148, 153, 0, 5] := by unfold x_by; decide +kernel
      obtain ⟨d563, h0⟩ := de_aload_n3 h0
      obtain ⟨d564, h0⟩ := de_iconst_0 h0
      obtain ⟨d565, h0⟩ := de_laload h0
      obtain ⟨d566, h0⟩ := de_iload h0
      obtain ⟨d568, h0⟩ := de_i2l h0
      obtain ⟨d569, h0⟩ := de_lcmp h0
      obtain ⟨d570, h0⟩ := de_if_eq (5) (by decide) h0
      refine lv_aload_n hx hb d563 rfl (lv_at hl 4 rfl) ?_
      refine lv_iconst (v := 0) hx hb d564 (by decide) ?_
      refine x_lald C0 hR hf d565 (fun j5 hf => ?_)
      refine lv_iload hx hb d566 (lv_at hl 0 rfl) ?_
      refine lv_i2l hx hb d568 rfl ?_
      refine W.lcmp hx hb d569 ?_
      refine lv_if_eq (tgt := 575) hx hb d570 (by decide) (fun q => ?_) (fun q => ?_)
      · have hf := x_pos q hf
        exact s_L_law_b575 hE C0 hX hbl hbA hk23 _ _ _ _ _ _ _ _ _ _ (by omega) (by omega) hR hS (lv_sub hl [1, 2, 3, 4, 5] rfl) hf
      · have hf := x_neg q hf
        have h0 : x_by cL_law 573 [3, 172] := by unfold x_by; decide +kernel
        obtain ⟨d573, h0⟩ := de_iconst_0 h0
        obtain ⟨d574, h0⟩ := de_ireturn h0
        refine lv_iconst (v := 0) hx hb d573 (by decide) ?_
        cases hf
  · have hf := x_neg q hf
    have h0 : x_by cL_law 556 [3, 172] := by unfold x_by; decide +kernel
    obtain ⟨d556, h0⟩ := de_iconst_0 h0
    obtain ⟨d557, h0⟩ := de_ireturn h0
    refine lv_iconst (v := 0) hx hb d556 (by decide) ?_
    cases hf
set_option maxRecDepth 100000 in
set_option maxHeartbeats 8000000 in
theorem s_L_law_b515 {p : Program} {l : Launch} {e : Env} {s : State} {m : MethodId} {below : List Frame} {meth : Method} {c : Code} {E : XE} {z : XR} {nm : String} {b L : Nat} {xs : Nat → Int32} (hE : E.1 = s.heap.size) (C0 : x_C E p l s m meth c #[Value.ref b] cL_law 7 "GridEngineLaw" nm ret) (hX : va_X b L xs s s.heap) (hbl : b < s.heap.size) (hbA : ¬ x_A E b) {N : Nat} {k23 : HP → Nat → Nat → Nat → Int32 → Option XR} (hk23 : ∀ (h : HP) (r1 : Nat) (r2 : Nat) (r3 : Nat) (x4 : Int32) (H : Heap) (locs : List Loc) (ls : Array Slot) (kc ks : Nat), kc + N * 16 ≤ 600000 → ks + N * 96 ≤ 7290000 → x_Rep E h H → va_S (x_A E) s.heap H locs → lv_has ls 7 [(0, .ref b), (1, .ref (xa E r1)), (2, .ref (xa E r2)), (3, .ref (xa E r3)), (4, .int x4)] → k23 h r1 r2 r3 x4 = some z → W p l e room_1 s m #[Value.ref b] below meth c H locs kc ks (lw_Z below #[Value.ref b] s) (F0 m 23 ls [])) : ∀ (h : HP) (t0 : Int32) (t1 : Int32) (t2 : Nat) (r1 : Nat) (r2 : Nat) (r3 : Nat) (x4 : Int32) (H : Heap) (locs : List Loc) (ls : Array Slot) (kc ks : Nat), kc + (N + 1) * 16 ≤ 600000 → ks + (N + 1) * 96 ≤ 7290000 → x_Rep E h H → va_S (x_A E) s.heap H locs → lv_has ls 7 [(0, .ref b), (1, .ref (xa E r1)), (2, .ref (xa E r2)), (3, .ref (xa E r3)), (4, .int x4)] → f_L_law_b515 L xs k23 h t0 t1 t2 r1 r2 r3 x4 = some z → W p l e room_1 s m #[Value.ref b] below meth c H locs kc ks (lw_Z below #[Value.ref b] s) (F0 m 515 ls [.int t0, .int t1, .ref (xa E t2)]) := by
  intro h t0 t1 t2 r1 r2 r3 x4 H locs ls kc ks hkc hks hR hS hl hf
  obtain ⟨hx, hb, -⟩ := id C0
  unfold f_L_law_b515 at hf
  have h0 : x_by cL_law 515 [45, 184, 0, 134, 54, 5, 44, 42, 21, 4, 4, 96, 46, 42, 21, 4, 5, 96, 46, 153, 0, 7] := by unfold x_by; decide +kernel
  obtain ⟨d515, h0⟩ := de_aload_n3 h0
  obtain ⟨d516, h0⟩ := de_invokestatic 134 (by decide) h0
  obtain ⟨d519, h0⟩ := de_istore h0
  obtain ⟨d521, h0⟩ := de_aload_n2 h0
  obtain ⟨d522, h0⟩ := de_aload_n0 h0
  obtain ⟨d523, h0⟩ := de_iload h0
  obtain ⟨d525, h0⟩ := de_iconst_1 h0
  obtain ⟨d526, h0⟩ := de_iadd h0
  obtain ⟨d527, h0⟩ := de_iaload h0
  obtain ⟨d528, h0⟩ := de_aload_n0 h0
  obtain ⟨d529, h0⟩ := de_iload h0
  obtain ⟨d531, h0⟩ := de_iconst_2 h0
  obtain ⟨d532, h0⟩ := de_iadd h0
  obtain ⟨d533, h0⟩ := de_iaload h0
  obtain ⟨d534, h0⟩ := de_if_eq (7) (by decide) h0
  refine lv_aload_n hx hb d515 rfl (lv_at hl 3 rfl) ?_
  refine x_thenLI hS hf (fun z0 e0 => x_runSX C0 hR hS me_L_setFlow wt_L_setFlow ml_L_134 (As := [.ref (xa E t2), .int t1, .int t0, .ref (xa E r3)]) (ct_L_setFlow E l C0.2.2.2.2.2.2.2.1 _ t2 t1 t0 r3) rfl rfl hl.1 (Nat.le_of_ble_eq_true rfl) d516 ⟨(Nat.le_of_ble_eq_true rfl), (Nat.le_of_ble_eq_true rfl)⟩ ⟨(by show _ ≤ 601024; omega), (by show _ ≤ 7293034; omega)⟩ e0) (fun h9 i1 H locs hR hS hf => ?_)
  refine lv_istore (lv' := [(5, .int i1), (0, .ref b), (1, .ref (xa E r1)), (2, .ref (xa E r2)), (3, .ref (xa E r3)), (4, .int x4)]) hx hb d519 hl (by decide) rfl (fun ls hl => ?_)
  refine lv_aload_n hx hb d521 rfl (lv_at hl 3 rfl) ?_
  refine lv_aload_n hx hb d522 rfl (lv_at hl 1 rfl) ?_
  refine lv_iload hx hb d523 (lv_at hl 5 rfl) ?_
  refine lv_iconst (v := 1) hx hb d525 (by decide) ?_
  refine lv_iadd hx hb d526 ?_
  obtain ⟨hin, hf⟩ := x_sl_el hf
  refine va_sld hx hb hX hbl hbA hS hin d527 ?_
  refine lv_aload_n hx hb d528 rfl (lv_at hl 1 rfl) ?_
  refine lv_iload hx hb d529 (lv_at hl 5 rfl) ?_
  refine lv_iconst (v := 2) hx hb d531 (by decide) ?_
  refine lv_iadd hx hb d532 ?_
  obtain ⟨hin, hf⟩ := x_sl_el hf
  refine va_sld hx hb hX hbl hbA hS hin d533 ?_
  refine lv_if_eq (tgt := 541) hx hb d534 (by decide) (fun q => ?_) (fun q => ?_)
  · have hf := x_pos q hf
    have h0 : x_by cL_law 541 [3] := by unfold x_by; decide +kernel
    obtain ⟨d541, h0⟩ := de_iconst_0 h0
    refine lv_iconst (v := 0) hx hb d541 (by decide) ?_
    exact s_L_law_b542 hE C0 hX hbl hbA hk23 _ _ _ _ _ _ _ _ _ _ _ _ _ _ (by omega) (by omega) hR hS (lv_sub hl [1, 2, 3, 4, 5, 0] rfl) hf
  · have hf := x_neg q hf
    have h0 : x_by cL_law 537 [4, 167, 0, 4] := by unfold x_by; decide +kernel
    obtain ⟨d537, h0⟩ := de_iconst_1 h0
    obtain ⟨d538, h0⟩ := de_goto (4) (by decide) h0
    refine lv_iconst (v := 1) hx hb d537 (by decide) ?_
    refine lv_goto (tgt := 542) hx hb d538 (by decide) ?_
    exact s_L_law_b542 hE C0 hX hbl hbA hk23 _ _ _ _ _ _ _ _ _ _ _ _ _ _ (by omega) (by omega) hR hS (lv_sub hl [1, 2, 3, 4, 5, 0] rfl) hf
set_option maxRecDepth 100000 in
set_option maxHeartbeats 8000000 in
theorem s_L_law_b667 {p : Program} {l : Launch} {e : Env} {s : State} {m : MethodId} {below : List Frame} {meth : Method} {c : Code} {E : XE} {z : XR} {nm : String} {b L : Nat} {xs : Nat → Int32} (hE : E.1 = s.heap.size) (C0 : x_C E p l s m meth c #[Value.ref b] cL_law 7 "GridEngineLaw" nm ret) (hX : va_X b L xs s s.heap) (hbl : b < s.heap.size) (hbA : ¬ x_A E b) {N : Nat} {k23 : HP → Nat → Nat → Nat → Int32 → Option XR} (hk23 : ∀ (h : HP) (r1 : Nat) (r2 : Nat) (r3 : Nat) (x4 : Int32) (H : Heap) (locs : List Loc) (ls : Array Slot) (kc ks : Nat), kc + N * 16 ≤ 600000 → ks + N * 96 ≤ 7290000 → x_Rep E h H → va_S (x_A E) s.heap H locs → lv_has ls 7 [(0, .ref b), (1, .ref (xa E r1)), (2, .ref (xa E r2)), (3, .ref (xa E r3)), (4, .int x4)] → k23 h r1 r2 r3 x4 = some z → W p l e room_1 s m #[Value.ref b] below meth c H locs kc ks (lw_Z below #[Value.ref b] s) (F0 m 23 ls [])) : ∀ (h : HP) (r1 : Nat) (r2 : Nat) (r3 : Nat) (x4 : Int32) (H : Heap) (locs : List Loc) (ls : Array Slot) (kc ks : Nat), kc + N * 16 ≤ 600000 → ks + N * 96 ≤ 7290000 → x_Rep E h H → va_S (x_A E) s.heap H locs → lv_has ls 7 [(0, .ref b), (1, .ref (xa E r1)), (2, .ref (xa E r2)), (3, .ref (xa E r3)), (4, .int x4)] → f_L_law_b667 L xs k23 h r1 r2 r3 x4 = some z → W p l e room_1 s m #[Value.ref b] below meth c H locs kc ks (lw_Z below #[Value.ref b] s) (F0 m 667 ls []) := by
  intro h r1 r2 r3 x4 H locs ls kc ks hkc hks hR hS hl hf
  obtain ⟨hx, hb, -⟩ := id C0
  unfold f_L_law_b667 at hf
  have h0 : x_by cL_law 667 [167, 5, 123] := by unfold x_by; decide +kernel
  obtain ⟨d667, h0⟩ := de_goto (1403) (by decide) h0
  refine lv_goto (tgt := 2070) hx hb d667 (by decide) ?_
  exact s_L_law_b2070 hE C0 hX hbl hbA hk23 _ _ _ _ _ _ _ _ _ _ (by omega) (by omega) hR hS (lv_sub hl [0, 1, 2, 3, 4] rfl) hf
set_option maxRecDepth 100000 in
set_option maxHeartbeats 8000000 in
theorem s_L_law_b759 {p : Program} {l : Launch} {e : Env} {s : State} {m : MethodId} {below : List Frame} {meth : Method} {c : Code} {E : XE} {z : XR} {nm : String} {b L : Nat} {xs : Nat → Int32} (hE : E.1 = s.heap.size) (C0 : x_C E p l s m meth c #[Value.ref b] cL_law 7 "GridEngineLaw" nm ret) (hX : va_X b L xs s s.heap) (hbl : b < s.heap.size) (hbA : ¬ x_A E b) {N : Nat} {k23 : HP → Nat → Nat → Nat → Int32 → Option XR} (hk23 : ∀ (h : HP) (r1 : Nat) (r2 : Nat) (r3 : Nat) (x4 : Int32) (H : Heap) (locs : List Loc) (ls : Array Slot) (kc ks : Nat), kc + N * 16 ≤ 600000 → ks + N * 96 ≤ 7290000 → x_Rep E h H → va_S (x_A E) s.heap H locs → lv_has ls 7 [(0, .ref b), (1, .ref (xa E r1)), (2, .ref (xa E r2)), (3, .ref (xa E r3)), (4, .int x4)] → k23 h r1 r2 r3 x4 = some z → W p l e room_1 s m #[Value.ref b] below meth c H locs kc ks (lw_Z below #[Value.ref b] s) (F0 m 23 ls [])) : ∀ (h : HP) (r1 : Nat) (r2 : Nat) (r3 : Nat) (x4 : Int32) (H : Heap) (locs : List Loc) (ls : Array Slot) (kc ks : Nat), kc + N * 16 ≤ 600000 → ks + N * 96 ≤ 7290000 → x_Rep E h H → va_S (x_A E) s.heap H locs → lv_has ls 7 [(0, .ref b), (1, .ref (xa E r1)), (2, .ref (xa E r2)), (3, .ref (xa E r3)), (4, .int x4)] → f_L_law_b759 L xs k23 h r1 r2 r3 x4 = some z → W p l e room_1 s m #[Value.ref b] below meth c H locs kc ks (lw_Z below #[Value.ref b] s) (F0 m 759 ls []) := by
  intro h r1 r2 r3 x4 H locs ls kc ks hkc hks hR hS hl hf
  obtain ⟨hx, hb, -⟩ := id C0
  unfold f_L_law_b759 at hf
  have h0 : x_by cL_law 759 [167, 5, 31] := by unfold x_by; decide +kernel
  obtain ⟨d759, h0⟩ := de_goto (1311) (by decide) h0
  refine lv_goto (tgt := 2070) hx hb d759 (by decide) ?_
  exact s_L_law_b2070 hE C0 hX hbl hbA hk23 _ _ _ _ _ _ _ _ _ _ (by omega) (by omega) hR hS (lv_sub hl [0, 1, 2, 3, 4] rfl) hf
set_option maxRecDepth 100000 in
set_option maxHeartbeats 8000000 in
theorem s_L_law_b839 {p : Program} {l : Launch} {e : Env} {s : State} {m : MethodId} {below : List Frame} {meth : Method} {c : Code} {E : XE} {z : XR} {nm : String} {b L : Nat} {xs : Nat → Int32} (hE : E.1 = s.heap.size) (C0 : x_C E p l s m meth c #[Value.ref b] cL_law 7 "GridEngineLaw" nm ret) (hX : va_X b L xs s s.heap) (hbl : b < s.heap.size) (hbA : ¬ x_A E b) {N : Nat} {k23 : HP → Nat → Nat → Nat → Int32 → Option XR} (hk23 : ∀ (h : HP) (r1 : Nat) (r2 : Nat) (r3 : Nat) (x4 : Int32) (H : Heap) (locs : List Loc) (ls : Array Slot) (kc ks : Nat), kc + N * 16 ≤ 600000 → ks + N * 96 ≤ 7290000 → x_Rep E h H → va_S (x_A E) s.heap H locs → lv_has ls 7 [(0, .ref b), (1, .ref (xa E r1)), (2, .ref (xa E r2)), (3, .ref (xa E r3)), (4, .int x4)] → k23 h r1 r2 r3 x4 = some z → W p l e room_1 s m #[Value.ref b] below meth c H locs kc ks (lw_Z below #[Value.ref b] s) (F0 m 23 ls [])) : ∀ (h : HP) (r1 : Nat) (r2 : Nat) (r3 : Nat) (x4 : Int32) (H : Heap) (locs : List Loc) (ls : Array Slot) (kc ks : Nat), kc + N * 16 ≤ 600000 → ks + N * 96 ≤ 7290000 → x_Rep E h H → va_S (x_A E) s.heap H locs → lv_has ls 7 [(0, .ref b), (1, .ref (xa E r1)), (2, .ref (xa E r2)), (3, .ref (xa E r3)), (4, .int x4)] → f_L_law_b839 L xs k23 h r1 r2 r3 x4 = some z → W p l e room_1 s m #[Value.ref b] below meth c H locs kc ks (lw_Z below #[Value.ref b] s) (F0 m 839 ls []) := by
  intro h r1 r2 r3 x4 H locs ls kc ks hkc hks hR hS hl hf
  obtain ⟨hx, hb, -⟩ := id C0
  unfold f_L_law_b839 at hf
  have h0 : x_by cL_law 839 [167, 4, 207] := by unfold x_by; decide +kernel
  obtain ⟨d839, h0⟩ := de_goto (1231) (by decide) h0
  refine lv_goto (tgt := 2070) hx hb d839 (by decide) ?_
  exact s_L_law_b2070 hE C0 hX hbl hbA hk23 _ _ _ _ _ _ _ _ _ _ (by omega) (by omega) hR hS (lv_sub hl [0, 1, 2, 3, 4] rfl) hf
set_option maxRecDepth 100000 in
set_option maxHeartbeats 8000000 in
theorem s_L_law_b947 {p : Program} {l : Launch} {e : Env} {s : State} {m : MethodId} {below : List Frame} {meth : Method} {c : Code} {E : XE} {z : XR} {nm : String} {b L : Nat} {xs : Nat → Int32} (hE : E.1 = s.heap.size) (C0 : x_C E p l s m meth c #[Value.ref b] cL_law 7 "GridEngineLaw" nm ret) (hX : va_X b L xs s s.heap) (hbl : b < s.heap.size) (hbA : ¬ x_A E b) {N : Nat} {k23 : HP → Nat → Nat → Nat → Int32 → Option XR} (hk23 : ∀ (h : HP) (r1 : Nat) (r2 : Nat) (r3 : Nat) (x4 : Int32) (H : Heap) (locs : List Loc) (ls : Array Slot) (kc ks : Nat), kc + N * 16 ≤ 600000 → ks + N * 96 ≤ 7290000 → x_Rep E h H → va_S (x_A E) s.heap H locs → lv_has ls 7 [(0, .ref b), (1, .ref (xa E r1)), (2, .ref (xa E r2)), (3, .ref (xa E r3)), (4, .int x4)] → k23 h r1 r2 r3 x4 = some z → W p l e room_1 s m #[Value.ref b] below meth c H locs kc ks (lw_Z below #[Value.ref b] s) (F0 m 23 ls [])) : ∀ (h : HP) (r1 : Nat) (r2 : Nat) (r3 : Nat) (x4 : Int32) (H : Heap) (locs : List Loc) (ls : Array Slot) (kc ks : Nat), kc + N * 16 ≤ 600000 → ks + N * 96 ≤ 7290000 → x_Rep E h H → va_S (x_A E) s.heap H locs → lv_has ls 7 [(0, .ref b), (1, .ref (xa E r1)), (2, .ref (xa E r2)), (3, .ref (xa E r3)), (4, .int x4)] → f_L_law_b947 L xs k23 h r1 r2 r3 x4 = some z → W p l e room_1 s m #[Value.ref b] below meth c H locs kc ks (lw_Z below #[Value.ref b] s) (F0 m 947 ls []) := by
  intro h r1 r2 r3 x4 H locs ls kc ks hkc hks hR hS hl hf
  obtain ⟨hx, hb, -⟩ := id C0
  unfold f_L_law_b947 at hf
  have h0 : x_by cL_law 947 [167, 4, 99] := by unfold x_by; decide +kernel
  obtain ⟨d947, h0⟩ := de_goto (1123) (by decide) h0
  refine lv_goto (tgt := 2070) hx hb d947 (by decide) ?_
  exact s_L_law_b2070 hE C0 hX hbl hbA hk23 _ _ _ _ _ _ _ _ _ _ (by omega) (by omega) hR hS (lv_sub hl [0, 1, 2, 3, 4] rfl) hf
set_option maxRecDepth 100000 in
set_option maxHeartbeats 8000000 in
theorem s_L_law_b908 {p : Program} {l : Launch} {e : Env} {s : State} {m : MethodId} {below : List Frame} {meth : Method} {c : Code} {E : XE} {z : XR} {nm : String} {b L : Nat} {xs : Nat → Int32} (hE : E.1 = s.heap.size) (C0 : x_C E p l s m meth c #[Value.ref b] cL_law 7 "GridEngineLaw" nm ret) (hX : va_X b L xs s s.heap) (hbl : b < s.heap.size) (hbA : ¬ x_A E b) {N : Nat} {k23 : HP → Nat → Nat → Nat → Int32 → Option XR} (hk23 : ∀ (h : HP) (r1 : Nat) (r2 : Nat) (r3 : Nat) (x4 : Int32) (H : Heap) (locs : List Loc) (ls : Array Slot) (kc ks : Nat), kc + N * 16 ≤ 600000 → ks + N * 96 ≤ 7290000 → x_Rep E h H → va_S (x_A E) s.heap H locs → lv_has ls 7 [(0, .ref b), (1, .ref (xa E r1)), (2, .ref (xa E r2)), (3, .ref (xa E r3)), (4, .int x4)] → k23 h r1 r2 r3 x4 = some z → W p l e room_1 s m #[Value.ref b] below meth c H locs kc ks (lw_Z below #[Value.ref b] s) (F0 m 23 ls [])) : ∀ (h : HP) (t0 : Int32) (t1 : Int32) (t2 : Int32) (t3 : Nat) (r1 : Nat) (r2 : Nat) (r3 : Nat) (x4 : Int32) (x5 : Int32) (H : Heap) (locs : List Loc) (ls : Array Slot) (kc ks : Nat), kc + N * 16 ≤ 600000 → ks + N * 96 ≤ 7290000 → x_Rep E h H → va_S (x_A E) s.heap H locs → lv_has ls 7 [(0, .ref b), (1, .ref (xa E r1)), (2, .ref (xa E r2)), (3, .ref (xa E r3)), (4, .int x4), (5, .int x5)] → f_L_law_b908 L xs k23 h t0 t1 t2 t3 r1 r2 r3 x4 x5 = some z → W p l e room_1 s m #[Value.ref b] below meth c H locs kc ks (lw_Z below #[Value.ref b] s) (F0 m 908 ls [.int t0, .int t1, .int t2, .ref (xa E t3)]) := by
  intro h t0 t1 t2 t3 r1 r2 r3 x4 x5 H locs ls kc ks hkc hks hR hS hl hf
  obtain ⟨hx, hb, -⟩ := id C0
  unfold f_L_law_b908 at hf
  have h0 : x_by cL_law 908 [42, 21, 4, 7, 96, 46, 182, 0, 151, 54, 6, 44, 182, 0, 117, 21, 5, 159, 0, 5] := by unfold x_by; decide +kernel
  obtain ⟨d908, h0⟩ := de_aload_n0 h0
  obtain ⟨d909, h0⟩ := de_iload h0
  obtain ⟨d911, h0⟩ := de_iconst_4 h0
  obtain ⟨d912, h0⟩ := de_iadd h0
  obtain ⟨d913, h0⟩ := de_iaload h0
  obtain ⟨d914, h0⟩ := de_invokevirtual 151 (by decide) h0
  obtain ⟨d917, h0⟩ := de_istore h0
  obtain ⟨d919, h0⟩ := de_aload_n2 h0
  obtain ⟨d920, h0⟩ := de_invokevirtual 117 (by decide) h0
  obtain ⟨d923, h0⟩ := de_iload h0
  obtain ⟨d925, h0⟩ := de_icmp_eq (5) (by decide) h0
  refine lv_aload_n hx hb d908 rfl (lv_at hl 0 rfl) ?_
  refine lv_iload hx hb d909 (lv_at hl 4 rfl) ?_
  refine lv_iconst (v := 4) hx hb d911 (by decide) ?_
  refine lv_iadd hx hb d912 ?_
  obtain ⟨hin, hf⟩ := x_sl_el hf
  refine va_sld hx hb hX hbl hbA hS hin d913 ?_
  obtain ⟨hs9, hf⟩ := x_if hf
  refine x_thenLI hS hf (fun z0 e0 => x_runV C0 hR hS me_X8_contribute wi_X8_contribute wl_X8_contribute ml_L_151 hs9 xcl_8 (As := [.int t2, .int t1, .int t0, .int (xs ((x4 + 4) : Int32).toNatClampNeg)]) (ct_X8_contribute E l C0.2.2.2.2.2.2.2.1 _ t3 t2 t1 t0 (xs ((x4 + 4) : Int32).toNatClampNeg)) rfl rfl hl.1 (Nat.le_of_ble_eq_true rfl) d914 ⟨(Nat.le_of_ble_eq_true rfl), (Nat.le_of_ble_eq_true rfl)⟩ ⟨(by show _ ≤ 601024; omega), (by show _ ≤ 7293034; omega)⟩ e0) (fun h9 i1 H locs hR hS hf => ?_)
  refine lv_istore (lv' := [(6, .int i1), (0, .ref b), (1, .ref (xa E r1)), (2, .ref (xa E r2)), (3, .ref (xa E r3)), (4, .int x4), (5, .int x5)]) hx hb d917 hl (by decide) rfl (fun ls hl => ?_)
  refine lv_aload_n hx hb d919 rfl (lv_at hl 3 rfl) ?_
  obtain ⟨hs9, hf⟩ := x_if hf
  refine x_thenLI hS hf (fun z0 e0 => x_runV C0 hR hS me_X8_thrown wi_X8_thrown wl_X8_thrown ml_L_117 hs9 xcl_8 (As := []) (ct_X8_thrown E l C0.2.2.2.2.2.2.2.1 _ r2) rfl rfl hl.1 (Nat.le_of_ble_eq_true rfl) d920 ⟨(Nat.le_of_ble_eq_true rfl), (Nat.le_of_ble_eq_true rfl)⟩ ⟨(by show _ ≤ 601024; omega), (by show _ ≤ 7293034; omega)⟩ e0) (fun h9 i3 H locs hR hS hf => ?_)
  refine lv_iload hx hb d923 (lv_at hl 6 rfl) ?_
  refine lv_icmp_eq (tgt := 930) hx hb d925 (by decide) (fun q => ?_) (fun q => ?_)
  · have hf := x_pos q hf
    have h0 : x_by cL_law 930 [21, 5, 154, 0, 15] := by unfold x_by; decide +kernel
    obtain ⟨d930, h0⟩ := de_iload h0
    obtain ⟨d932, h0⟩ := de_if_ne (15) (by decide) h0
    refine lv_iload hx hb d930 (lv_at hl 6 rfl) ?_
    refine lv_if_ne (tgt := 947) hx hb d932 (by decide) (fun q => ?_) (fun q => ?_)
    · have hf := x_neg q hf
      exact s_L_law_b947 hE C0 hX hbl hbA hk23 _ _ _ _ _ _ _ _ _ _ (by omega) (by omega) hR hS (lv_sub hl [1, 2, 3, 4, 5] rfl) hf
    · have hf := x_pos q hf
      have h0 : x_by cL_law 935 [45, 3, 47, 21, 6, 133, 148, 153, 0, 5] := by unfold x_by; decide +kernel
      obtain ⟨d935, h0⟩ := de_aload_n3 h0
      obtain ⟨d936, h0⟩ := de_iconst_0 h0
      obtain ⟨d937, h0⟩ := de_laload h0
      obtain ⟨d938, h0⟩ := de_iload h0
      obtain ⟨d940, h0⟩ := de_i2l h0
      obtain ⟨d941, h0⟩ := de_lcmp h0
      obtain ⟨d942, h0⟩ := de_if_eq (5) (by decide) h0
      refine lv_aload_n hx hb d935 rfl (lv_at hl 4 rfl) ?_
      refine lv_iconst (v := 0) hx hb d936 (by decide) ?_
      refine x_lald C0 hR hf d937 (fun j5 hf => ?_)
      refine lv_iload hx hb d938 (lv_at hl 0 rfl) ?_
      refine lv_i2l hx hb d940 rfl ?_
      refine W.lcmp hx hb d941 ?_
      refine lv_if_eq (tgt := 947) hx hb d942 (by decide) (fun q => ?_) (fun q => ?_)
      · have hf := x_pos q hf
        exact s_L_law_b947 hE C0 hX hbl hbA hk23 _ _ _ _ _ _ _ _ _ _ (by omega) (by omega) hR hS (lv_sub hl [1, 2, 3, 4, 5] rfl) hf
      · have hf := x_neg q hf
        have h0 : x_by cL_law 945 [3, 172] := by unfold x_by; decide +kernel
        obtain ⟨d945, h0⟩ := de_iconst_0 h0
        obtain ⟨d946, h0⟩ := de_ireturn h0
        refine lv_iconst (v := 0) hx hb d945 (by decide) ?_
        cases hf
  · have hf := x_neg q hf
    have h0 : x_by cL_law 928 [3, 172] := by unfold x_by; decide +kernel
    obtain ⟨d928, h0⟩ := de_iconst_0 h0
    obtain ⟨d929, h0⟩ := de_ireturn h0
    refine lv_iconst (v := 0) hx hb d928 (by decide) ?_
    cases hf
set_option maxRecDepth 100000 in
set_option maxHeartbeats 8000000 in
theorem s_L_law_b869 {p : Program} {l : Launch} {e : Env} {s : State} {m : MethodId} {below : List Frame} {meth : Method} {c : Code} {E : XE} {z : XR} {nm : String} {b L : Nat} {xs : Nat → Int32} (hE : E.1 = s.heap.size) (C0 : x_C E p l s m meth c #[Value.ref b] cL_law 7 "GridEngineLaw" nm ret) (hX : va_X b L xs s s.heap) (hbl : b < s.heap.size) (hbA : ¬ x_A E b) {N : Nat} {k23 : HP → Nat → Nat → Nat → Int32 → Option XR} (hk23 : ∀ (h : HP) (r1 : Nat) (r2 : Nat) (r3 : Nat) (x4 : Int32) (H : Heap) (locs : List Loc) (ls : Array Slot) (kc ks : Nat), kc + N * 16 ≤ 600000 → ks + N * 96 ≤ 7290000 → x_Rep E h H → va_S (x_A E) s.heap H locs → lv_has ls 7 [(0, .ref b), (1, .ref (xa E r1)), (2, .ref (xa E r2)), (3, .ref (xa E r3)), (4, .int x4)] → k23 h r1 r2 r3 x4 = some z → W p l e room_1 s m #[Value.ref b] below meth c H locs kc ks (lw_Z below #[Value.ref b] s) (F0 m 23 ls [])) : ∀ (h : HP) (t0 : Int32) (t1 : Int32) (t2 : Int32) (t3 : Nat) (r1 : Nat) (r2 : Nat) (r3 : Nat) (x4 : Int32) (H : Heap) (locs : List Loc) (ls : Array Slot) (kc ks : Nat), kc + (N + 1) * 16 ≤ 600000 → ks + (N + 1) * 96 ≤ 7290000 → x_Rep E h H → va_S (x_A E) s.heap H locs → lv_has ls 7 [(0, .ref b), (1, .ref (xa E r1)), (2, .ref (xa E r2)), (3, .ref (xa E r3)), (4, .int x4)] → f_L_law_b869 L xs k23 h t0 t1 t2 t3 r1 r2 r3 x4 = some z → W p l e room_1 s m #[Value.ref b] below meth c H locs kc ks (lw_Z below #[Value.ref b] s) (F0 m 869 ls [.int t0, .int t1, .int t2, .ref (xa E t3)]) := by
  intro h t0 t1 t2 t3 r1 r2 r3 x4 H locs ls kc ks hkc hks hR hS hl hf
  obtain ⟨hx, hb, -⟩ := id C0
  unfold f_L_law_b869 at hf
  have h0 : x_by cL_law 869 [42, 21, 4, 7, 96, 46, 45, 184, 0, 148, 54, 5, 44, 42, 21, 4, 4, 96, 46, 42, 21, 4, 5, 96, 46, 42, 21, 4, 6, 96, 46, 153, 0, 7] := by unfold x_by; decide +kernel
  obtain ⟨d869, h0⟩ := de_aload_n0 h0
  obtain ⟨d870, h0⟩ := de_iload h0
  obtain ⟨d872, h0⟩ := de_iconst_4 h0
  obtain ⟨d873, h0⟩ := de_iadd h0
  obtain ⟨d874, h0⟩ := de_iaload h0
  obtain ⟨d875, h0⟩ := de_aload_n3 h0
  obtain ⟨d876, h0⟩ := de_invokestatic 148 (by decide) h0
  obtain ⟨d879, h0⟩ := de_istore h0
  obtain ⟨d881, h0⟩ := de_aload_n2 h0
  obtain ⟨d882, h0⟩ := de_aload_n0 h0
  obtain ⟨d883, h0⟩ := de_iload h0
  obtain ⟨d885, h0⟩ := de_iconst_1 h0
  obtain ⟨d886, h0⟩ := de_iadd h0
  obtain ⟨d887, h0⟩ := de_iaload h0
  obtain ⟨d888, h0⟩ := de_aload_n0 h0
  obtain ⟨d889, h0⟩ := de_iload h0
  obtain ⟨d891, h0⟩ := de_iconst_2 h0
  obtain ⟨d892, h0⟩ := de_iadd h0
  obtain ⟨d893, h0⟩ := de_iaload h0
  obtain ⟨d894, h0⟩ := de_aload_n0 h0
  obtain ⟨d895, h0⟩ := de_iload h0
  obtain ⟨d897, h0⟩ := de_iconst_3 h0
  obtain ⟨d898, h0⟩ := de_iadd h0
  obtain ⟨d899, h0⟩ := de_iaload h0
  obtain ⟨d900, h0⟩ := de_if_eq (7) (by decide) h0
  refine lv_aload_n hx hb d869 rfl (lv_at hl 0 rfl) ?_
  refine lv_iload hx hb d870 (lv_at hl 4 rfl) ?_
  refine lv_iconst (v := 4) hx hb d872 (by decide) ?_
  refine lv_iadd hx hb d873 ?_
  obtain ⟨hin, hf⟩ := x_sl_el hf
  refine va_sld hx hb hX hbl hbA hS hin d874 ?_
  refine lv_aload_n hx hb d875 rfl (lv_at hl 3 rfl) ?_
  refine x_thenLI hS hf (fun z0 e0 => x_runSX C0 hR hS me_L_contribute wt_L_contribute ml_L_148 (As := [.ref (xa E t3), .int t2, .int t1, .int t0, .int (xs ((x4 + 4) : Int32).toNatClampNeg), .ref (xa E r3)]) (ct_L_contribute E l C0.2.2.2.2.2.2.2.1 _ t3 t2 t1 t0 (xs ((x4 + 4) : Int32).toNatClampNeg) r3) rfl rfl hl.1 (Nat.le_of_ble_eq_true rfl) d876 ⟨(Nat.le_of_ble_eq_true rfl), (Nat.le_of_ble_eq_true rfl)⟩ ⟨(by show _ ≤ 601024; omega), (by show _ ≤ 7293034; omega)⟩ e0) (fun h9 i1 H locs hR hS hf => ?_)
  refine lv_istore (lv' := [(5, .int i1), (0, .ref b), (1, .ref (xa E r1)), (2, .ref (xa E r2)), (3, .ref (xa E r3)), (4, .int x4)]) hx hb d879 hl (by decide) rfl (fun ls hl => ?_)
  refine lv_aload_n hx hb d881 rfl (lv_at hl 3 rfl) ?_
  refine lv_aload_n hx hb d882 rfl (lv_at hl 1 rfl) ?_
  refine lv_iload hx hb d883 (lv_at hl 5 rfl) ?_
  refine lv_iconst (v := 1) hx hb d885 (by decide) ?_
  refine lv_iadd hx hb d886 ?_
  obtain ⟨hin, hf⟩ := x_sl_el hf
  refine va_sld hx hb hX hbl hbA hS hin d887 ?_
  refine lv_aload_n hx hb d888 rfl (lv_at hl 1 rfl) ?_
  refine lv_iload hx hb d889 (lv_at hl 5 rfl) ?_
  refine lv_iconst (v := 2) hx hb d891 (by decide) ?_
  refine lv_iadd hx hb d892 ?_
  obtain ⟨hin, hf⟩ := x_sl_el hf
  refine va_sld hx hb hX hbl hbA hS hin d893 ?_
  refine lv_aload_n hx hb d894 rfl (lv_at hl 1 rfl) ?_
  refine lv_iload hx hb d895 (lv_at hl 5 rfl) ?_
  refine lv_iconst (v := 3) hx hb d897 (by decide) ?_
  refine lv_iadd hx hb d898 ?_
  obtain ⟨hin, hf⟩ := x_sl_el hf
  refine va_sld hx hb hX hbl hbA hS hin d899 ?_
  refine lv_if_eq (tgt := 907) hx hb d900 (by decide) (fun q => ?_) (fun q => ?_)
  · have hf := x_pos q hf
    have h0 : x_by cL_law 907 [3] := by unfold x_by; decide +kernel
    obtain ⟨d907, h0⟩ := de_iconst_0 h0
    refine lv_iconst (v := 0) hx hb d907 (by decide) ?_
    exact s_L_law_b908 hE C0 hX hbl hbA hk23 _ _ _ _ _ _ _ _ _ _ _ _ _ _ _ (by omega) (by omega) hR hS (lv_sub hl [1, 2, 3, 4, 5, 0] rfl) hf
  · have hf := x_neg q hf
    have h0 : x_by cL_law 903 [4, 167, 0, 4] := by unfold x_by; decide +kernel
    obtain ⟨d903, h0⟩ := de_iconst_1 h0
    obtain ⟨d904, h0⟩ := de_goto (4) (by decide) h0
    refine lv_iconst (v := 1) hx hb d903 (by decide) ?_
    refine lv_goto (tgt := 908) hx hb d904 (by decide) ?_
    exact s_L_law_b908 hE C0 hX hbl hbA hk23 _ _ _ _ _ _ _ _ _ _ _ _ _ _ _ (by omega) (by omega) hR hS (lv_sub hl [1, 2, 3, 4, 5, 0] rfl) hf
set_option maxRecDepth 100000 in
set_option maxHeartbeats 8000000 in
theorem s_L_law_b1003 {p : Program} {l : Launch} {e : Env} {s : State} {m : MethodId} {below : List Frame} {meth : Method} {c : Code} {E : XE} {z : XR} {nm : String} {b L : Nat} {xs : Nat → Int32} (hE : E.1 = s.heap.size) (C0 : x_C E p l s m meth c #[Value.ref b] cL_law 7 "GridEngineLaw" nm ret) (hX : va_X b L xs s s.heap) (hbl : b < s.heap.size) (hbA : ¬ x_A E b) {N : Nat} {k23 : HP → Nat → Nat → Nat → Int32 → Option XR} (hk23 : ∀ (h : HP) (r1 : Nat) (r2 : Nat) (r3 : Nat) (x4 : Int32) (H : Heap) (locs : List Loc) (ls : Array Slot) (kc ks : Nat), kc + N * 16 ≤ 600000 → ks + N * 96 ≤ 7290000 → x_Rep E h H → va_S (x_A E) s.heap H locs → lv_has ls 7 [(0, .ref b), (1, .ref (xa E r1)), (2, .ref (xa E r2)), (3, .ref (xa E r3)), (4, .int x4)] → k23 h r1 r2 r3 x4 = some z → W p l e room_1 s m #[Value.ref b] below meth c H locs kc ks (lw_Z below #[Value.ref b] s) (F0 m 23 ls [])) : ∀ (h : HP) (r1 : Nat) (r2 : Nat) (r3 : Nat) (x4 : Int32) (H : Heap) (locs : List Loc) (ls : Array Slot) (kc ks : Nat), kc + N * 16 ≤ 600000 → ks + N * 96 ≤ 7290000 → x_Rep E h H → va_S (x_A E) s.heap H locs → lv_has ls 7 [(0, .ref b), (1, .ref (xa E r1)), (2, .ref (xa E r2)), (3, .ref (xa E r3)), (4, .int x4)] → f_L_law_b1003 L xs k23 h r1 r2 r3 x4 = some z → W p l e room_1 s m #[Value.ref b] below meth c H locs kc ks (lw_Z below #[Value.ref b] s) (F0 m 1003 ls []) := by
  intro h r1 r2 r3 x4 H locs ls kc ks hkc hks hR hS hl hf
  obtain ⟨hx, hb, -⟩ := id C0
  unfold f_L_law_b1003 at hf
  have h0 : x_by cL_law 1003 [167, 4, 43] := by unfold x_by; decide +kernel
  obtain ⟨d1003, h0⟩ := de_goto (1067) (by decide) h0
  refine lv_goto (tgt := 2070) hx hb d1003 (by decide) ?_
  exact s_L_law_b2070 hE C0 hX hbl hbA hk23 _ _ _ _ _ _ _ _ _ _ (by omega) (by omega) hR hS (lv_sub hl [0, 1, 2, 3, 4] rfl) hf
set_option maxRecDepth 100000 in
set_option maxHeartbeats 8000000 in
theorem s_L_law_b1071 {p : Program} {l : Launch} {e : Env} {s : State} {m : MethodId} {below : List Frame} {meth : Method} {c : Code} {E : XE} {z : XR} {nm : String} {b L : Nat} {xs : Nat → Int32} (hE : E.1 = s.heap.size) (C0 : x_C E p l s m meth c #[Value.ref b] cL_law 7 "GridEngineLaw" nm ret) (hX : va_X b L xs s s.heap) (hbl : b < s.heap.size) (hbA : ¬ x_A E b) {N : Nat} {k23 : HP → Nat → Nat → Nat → Int32 → Option XR} (hk23 : ∀ (h : HP) (r1 : Nat) (r2 : Nat) (r3 : Nat) (x4 : Int32) (H : Heap) (locs : List Loc) (ls : Array Slot) (kc ks : Nat), kc + N * 16 ≤ 600000 → ks + N * 96 ≤ 7290000 → x_Rep E h H → va_S (x_A E) s.heap H locs → lv_has ls 7 [(0, .ref b), (1, .ref (xa E r1)), (2, .ref (xa E r2)), (3, .ref (xa E r3)), (4, .int x4)] → k23 h r1 r2 r3 x4 = some z → W p l e room_1 s m #[Value.ref b] below meth c H locs kc ks (lw_Z below #[Value.ref b] s) (F0 m 23 ls [])) : ∀ (h : HP) (r1 : Nat) (r2 : Nat) (r3 : Nat) (x4 : Int32) (H : Heap) (locs : List Loc) (ls : Array Slot) (kc ks : Nat), kc + N * 16 ≤ 600000 → ks + N * 96 ≤ 7290000 → x_Rep E h H → va_S (x_A E) s.heap H locs → lv_has ls 7 [(0, .ref b), (1, .ref (xa E r1)), (2, .ref (xa E r2)), (3, .ref (xa E r3)), (4, .int x4)] → f_L_law_b1071 L xs k23 h r1 r2 r3 x4 = some z → W p l e room_1 s m #[Value.ref b] below meth c H locs kc ks (lw_Z below #[Value.ref b] s) (F0 m 1071 ls []) := by
  intro h r1 r2 r3 x4 H locs ls kc ks hkc hks hR hS hl hf
  obtain ⟨hx, hb, -⟩ := id C0
  unfold f_L_law_b1071 at hf
  have h0 : x_by cL_law 1071 [167, 3, 231] := by unfold x_by; decide +kernel
  obtain ⟨d1071, h0⟩ := de_goto (999) (by decide) h0
  refine lv_goto (tgt := 2070) hx hb d1071 (by decide) ?_
  exact s_L_law_b2070 hE C0 hX hbl hbA hk23 _ _ _ _ _ _ _ _ _ _ (by omega) (by omega) hR hS (lv_sub hl [0, 1, 2, 3, 4] rfl) hf
set_option maxRecDepth 100000 in
set_option maxHeartbeats 8000000 in
theorem s_L_law_b1140 {p : Program} {l : Launch} {e : Env} {s : State} {m : MethodId} {below : List Frame} {meth : Method} {c : Code} {E : XE} {z : XR} {nm : String} {b L : Nat} {xs : Nat → Int32} (hE : E.1 = s.heap.size) (C0 : x_C E p l s m meth c #[Value.ref b] cL_law 7 "GridEngineLaw" nm ret) (hX : va_X b L xs s s.heap) (hbl : b < s.heap.size) (hbA : ¬ x_A E b) {N : Nat} {k23 : HP → Nat → Nat → Nat → Int32 → Option XR} (hk23 : ∀ (h : HP) (r1 : Nat) (r2 : Nat) (r3 : Nat) (x4 : Int32) (H : Heap) (locs : List Loc) (ls : Array Slot) (kc ks : Nat), kc + N * 16 ≤ 600000 → ks + N * 96 ≤ 7290000 → x_Rep E h H → va_S (x_A E) s.heap H locs → lv_has ls 7 [(0, .ref b), (1, .ref (xa E r1)), (2, .ref (xa E r2)), (3, .ref (xa E r3)), (4, .int x4)] → k23 h r1 r2 r3 x4 = some z → W p l e room_1 s m #[Value.ref b] below meth c H locs kc ks (lw_Z below #[Value.ref b] s) (F0 m 23 ls [])) : ∀ (h : HP) (r1 : Nat) (r2 : Nat) (r3 : Nat) (x4 : Int32) (H : Heap) (locs : List Loc) (ls : Array Slot) (kc ks : Nat), kc + N * 16 ≤ 600000 → ks + N * 96 ≤ 7290000 → x_Rep E h H → va_S (x_A E) s.heap H locs → lv_has ls 7 [(0, .ref b), (1, .ref (xa E r1)), (2, .ref (xa E r2)), (3, .ref (xa E r3)), (4, .int x4)] → f_L_law_b1140 L xs k23 h r1 r2 r3 x4 = some z → W p l e room_1 s m #[Value.ref b] below meth c H locs kc ks (lw_Z below #[Value.ref b] s) (F0 m 1140 ls []) := by
  intro h r1 r2 r3 x4 H locs ls kc ks hkc hks hR hS hl hf
  obtain ⟨hx, hb, -⟩ := id C0
  unfold f_L_law_b1140 at hf
  have h0 : x_by cL_law 1140 [167, 3, 162] := by unfold x_by; decide +kernel
  obtain ⟨d1140, h0⟩ := de_goto (930) (by decide) h0
  refine lv_goto (tgt := 2070) hx hb d1140 (by decide) ?_
  exact s_L_law_b2070 hE C0 hX hbl hbA hk23 _ _ _ _ _ _ _ _ _ _ (by omega) (by omega) hR hS (lv_sub hl [0, 1, 2, 3, 4] rfl) hf
set_option maxRecDepth 100000 in
set_option maxHeartbeats 8000000 in
theorem s_L_law_b1208 {p : Program} {l : Launch} {e : Env} {s : State} {m : MethodId} {below : List Frame} {meth : Method} {c : Code} {E : XE} {z : XR} {nm : String} {b L : Nat} {xs : Nat → Int32} (hE : E.1 = s.heap.size) (C0 : x_C E p l s m meth c #[Value.ref b] cL_law 7 "GridEngineLaw" nm ret) (hX : va_X b L xs s s.heap) (hbl : b < s.heap.size) (hbA : ¬ x_A E b) {N : Nat} {k23 : HP → Nat → Nat → Nat → Int32 → Option XR} (hk23 : ∀ (h : HP) (r1 : Nat) (r2 : Nat) (r3 : Nat) (x4 : Int32) (H : Heap) (locs : List Loc) (ls : Array Slot) (kc ks : Nat), kc + N * 16 ≤ 600000 → ks + N * 96 ≤ 7290000 → x_Rep E h H → va_S (x_A E) s.heap H locs → lv_has ls 7 [(0, .ref b), (1, .ref (xa E r1)), (2, .ref (xa E r2)), (3, .ref (xa E r3)), (4, .int x4)] → k23 h r1 r2 r3 x4 = some z → W p l e room_1 s m #[Value.ref b] below meth c H locs kc ks (lw_Z below #[Value.ref b] s) (F0 m 23 ls [])) : ∀ (h : HP) (r1 : Nat) (r2 : Nat) (r3 : Nat) (x4 : Int32) (H : Heap) (locs : List Loc) (ls : Array Slot) (kc ks : Nat), kc + N * 16 ≤ 600000 → ks + N * 96 ≤ 7290000 → x_Rep E h H → va_S (x_A E) s.heap H locs → lv_has ls 7 [(0, .ref b), (1, .ref (xa E r1)), (2, .ref (xa E r2)), (3, .ref (xa E r3)), (4, .int x4)] → f_L_law_b1208 L xs k23 h r1 r2 r3 x4 = some z → W p l e room_1 s m #[Value.ref b] below meth c H locs kc ks (lw_Z below #[Value.ref b] s) (F0 m 1208 ls []) := by
  intro h r1 r2 r3 x4 H locs ls kc ks hkc hks hR hS hl hf
  obtain ⟨hx, hb, -⟩ := id C0
  unfold f_L_law_b1208 at hf
  have h0 : x_by cL_law 1208 [167, 3, 94] := by unfold x_by; decide +kernel
  obtain ⟨d1208, h0⟩ := de_goto (862) (by decide) h0
  refine lv_goto (tgt := 2070) hx hb d1208 (by decide) ?_
  exact s_L_law_b2070 hE C0 hX hbl hbA hk23 _ _ _ _ _ _ _ _ _ _ (by omega) (by omega) hR hS (lv_sub hl [0, 1, 2, 3, 4] rfl) hf
set_option maxRecDepth 100000 in
set_option maxHeartbeats 8000000 in
theorem s_L_law_b1276 {p : Program} {l : Launch} {e : Env} {s : State} {m : MethodId} {below : List Frame} {meth : Method} {c : Code} {E : XE} {z : XR} {nm : String} {b L : Nat} {xs : Nat → Int32} (hE : E.1 = s.heap.size) (C0 : x_C E p l s m meth c #[Value.ref b] cL_law 7 "GridEngineLaw" nm ret) (hX : va_X b L xs s s.heap) (hbl : b < s.heap.size) (hbA : ¬ x_A E b) {N : Nat} {k23 : HP → Nat → Nat → Nat → Int32 → Option XR} (hk23 : ∀ (h : HP) (r1 : Nat) (r2 : Nat) (r3 : Nat) (x4 : Int32) (H : Heap) (locs : List Loc) (ls : Array Slot) (kc ks : Nat), kc + N * 16 ≤ 600000 → ks + N * 96 ≤ 7290000 → x_Rep E h H → va_S (x_A E) s.heap H locs → lv_has ls 7 [(0, .ref b), (1, .ref (xa E r1)), (2, .ref (xa E r2)), (3, .ref (xa E r3)), (4, .int x4)] → k23 h r1 r2 r3 x4 = some z → W p l e room_1 s m #[Value.ref b] below meth c H locs kc ks (lw_Z below #[Value.ref b] s) (F0 m 23 ls [])) : ∀ (h : HP) (r1 : Nat) (r2 : Nat) (r3 : Nat) (x4 : Int32) (H : Heap) (locs : List Loc) (ls : Array Slot) (kc ks : Nat), kc + N * 16 ≤ 600000 → ks + N * 96 ≤ 7290000 → x_Rep E h H → va_S (x_A E) s.heap H locs → lv_has ls 7 [(0, .ref b), (1, .ref (xa E r1)), (2, .ref (xa E r2)), (3, .ref (xa E r3)), (4, .int x4)] → f_L_law_b1276 L xs k23 h r1 r2 r3 x4 = some z → W p l e room_1 s m #[Value.ref b] below meth c H locs kc ks (lw_Z below #[Value.ref b] s) (F0 m 1276 ls []) := by
  intro h r1 r2 r3 x4 H locs ls kc ks hkc hks hR hS hl hf
  obtain ⟨hx, hb, -⟩ := id C0
  unfold f_L_law_b1276 at hf
  have h0 : x_by cL_law 1276 [167, 3, 26] := by unfold x_by; decide +kernel
  obtain ⟨d1276, h0⟩ := de_goto (794) (by decide) h0
  refine lv_goto (tgt := 2070) hx hb d1276 (by decide) ?_
  exact s_L_law_b2070 hE C0 hX hbl hbA hk23 _ _ _ _ _ _ _ _ _ _ (by omega) (by omega) hR hS (lv_sub hl [0, 1, 2, 3, 4] rfl) hf
set_option maxRecDepth 100000 in
set_option maxHeartbeats 8000000 in
theorem s_L_law_b1332 {p : Program} {l : Launch} {e : Env} {s : State} {m : MethodId} {below : List Frame} {meth : Method} {c : Code} {E : XE} {z : XR} {nm : String} {b L : Nat} {xs : Nat → Int32} (hE : E.1 = s.heap.size) (C0 : x_C E p l s m meth c #[Value.ref b] cL_law 7 "GridEngineLaw" nm ret) (hX : va_X b L xs s s.heap) (hbl : b < s.heap.size) (hbA : ¬ x_A E b) {N : Nat} {k23 : HP → Nat → Nat → Nat → Int32 → Option XR} (hk23 : ∀ (h : HP) (r1 : Nat) (r2 : Nat) (r3 : Nat) (x4 : Int32) (H : Heap) (locs : List Loc) (ls : Array Slot) (kc ks : Nat), kc + N * 16 ≤ 600000 → ks + N * 96 ≤ 7290000 → x_Rep E h H → va_S (x_A E) s.heap H locs → lv_has ls 7 [(0, .ref b), (1, .ref (xa E r1)), (2, .ref (xa E r2)), (3, .ref (xa E r3)), (4, .int x4)] → k23 h r1 r2 r3 x4 = some z → W p l e room_1 s m #[Value.ref b] below meth c H locs kc ks (lw_Z below #[Value.ref b] s) (F0 m 23 ls [])) : ∀ (h : HP) (r1 : Nat) (r2 : Nat) (r3 : Nat) (x4 : Int32) (H : Heap) (locs : List Loc) (ls : Array Slot) (kc ks : Nat), kc + N * 16 ≤ 600000 → ks + N * 96 ≤ 7290000 → x_Rep E h H → va_S (x_A E) s.heap H locs → lv_has ls 7 [(0, .ref b), (1, .ref (xa E r1)), (2, .ref (xa E r2)), (3, .ref (xa E r3)), (4, .int x4)] → f_L_law_b1332 L xs k23 h r1 r2 r3 x4 = some z → W p l e room_1 s m #[Value.ref b] below meth c H locs kc ks (lw_Z below #[Value.ref b] s) (F0 m 1332 ls []) := by
  intro h r1 r2 r3 x4 H locs ls kc ks hkc hks hR hS hl hf
  obtain ⟨hx, hb, -⟩ := id C0
  unfold f_L_law_b1332 at hf
  have h0 : x_by cL_law 1332 [167, 2, 226] := by unfold x_by; decide +kernel
  obtain ⟨d1332, h0⟩ := de_goto (738) (by decide) h0
  refine lv_goto (tgt := 2070) hx hb d1332 (by decide) ?_
  exact s_L_law_b2070 hE C0 hX hbl hbA hk23 _ _ _ _ _ _ _ _ _ _ (by omega) (by omega) hR hS (lv_sub hl [0, 1, 2, 3, 4] rfl) hf
set_option maxRecDepth 100000 in
set_option maxHeartbeats 8000000 in
theorem s_L_law_b1412 {p : Program} {l : Launch} {e : Env} {s : State} {m : MethodId} {below : List Frame} {meth : Method} {c : Code} {E : XE} {z : XR} {nm : String} {b L : Nat} {xs : Nat → Int32} (hE : E.1 = s.heap.size) (C0 : x_C E p l s m meth c #[Value.ref b] cL_law 7 "GridEngineLaw" nm ret) (hX : va_X b L xs s s.heap) (hbl : b < s.heap.size) (hbA : ¬ x_A E b) {N : Nat} {k23 : HP → Nat → Nat → Nat → Int32 → Option XR} (hk23 : ∀ (h : HP) (r1 : Nat) (r2 : Nat) (r3 : Nat) (x4 : Int32) (H : Heap) (locs : List Loc) (ls : Array Slot) (kc ks : Nat), kc + N * 16 ≤ 600000 → ks + N * 96 ≤ 7290000 → x_Rep E h H → va_S (x_A E) s.heap H locs → lv_has ls 7 [(0, .ref b), (1, .ref (xa E r1)), (2, .ref (xa E r2)), (3, .ref (xa E r3)), (4, .int x4)] → k23 h r1 r2 r3 x4 = some z → W p l e room_1 s m #[Value.ref b] below meth c H locs kc ks (lw_Z below #[Value.ref b] s) (F0 m 23 ls [])) : ∀ (h : HP) (r1 : Nat) (r2 : Nat) (r3 : Nat) (x4 : Int32) (H : Heap) (locs : List Loc) (ls : Array Slot) (kc ks : Nat), kc + N * 16 ≤ 600000 → ks + N * 96 ≤ 7290000 → x_Rep E h H → va_S (x_A E) s.heap H locs → lv_has ls 7 [(0, .ref b), (1, .ref (xa E r1)), (2, .ref (xa E r2)), (3, .ref (xa E r3)), (4, .int x4)] → f_L_law_b1412 L xs k23 h r1 r2 r3 x4 = some z → W p l e room_1 s m #[Value.ref b] below meth c H locs kc ks (lw_Z below #[Value.ref b] s) (F0 m 1412 ls []) := by
  intro h r1 r2 r3 x4 H locs ls kc ks hkc hks hR hS hl hf
  obtain ⟨hx, hb, -⟩ := id C0
  unfold f_L_law_b1412 at hf
  have h0 : x_by cL_law 1412 [167, 2, 146] := by unfold x_by; decide +kernel
  obtain ⟨d1412, h0⟩ := de_goto (658) (by decide) h0
  refine lv_goto (tgt := 2070) hx hb d1412 (by decide) ?_
  exact s_L_law_b2070 hE C0 hX hbl hbA hk23 _ _ _ _ _ _ _ _ _ _ (by omega) (by omega) hR hS (lv_sub hl [0, 1, 2, 3, 4] rfl) hf
set_option maxRecDepth 100000 in
set_option maxHeartbeats 8000000 in
theorem s_L_law_b1487 {p : Program} {l : Launch} {e : Env} {s : State} {m : MethodId} {below : List Frame} {meth : Method} {c : Code} {E : XE} {z : XR} {nm : String} {b L : Nat} {xs : Nat → Int32} (hE : E.1 = s.heap.size) (C0 : x_C E p l s m meth c #[Value.ref b] cL_law 7 "GridEngineLaw" nm ret) (hX : va_X b L xs s s.heap) (hbl : b < s.heap.size) (hbA : ¬ x_A E b) {N : Nat} {k23 : HP → Nat → Nat → Nat → Int32 → Option XR} (hk23 : ∀ (h : HP) (r1 : Nat) (r2 : Nat) (r3 : Nat) (x4 : Int32) (H : Heap) (locs : List Loc) (ls : Array Slot) (kc ks : Nat), kc + N * 16 ≤ 600000 → ks + N * 96 ≤ 7290000 → x_Rep E h H → va_S (x_A E) s.heap H locs → lv_has ls 7 [(0, .ref b), (1, .ref (xa E r1)), (2, .ref (xa E r2)), (3, .ref (xa E r3)), (4, .int x4)] → k23 h r1 r2 r3 x4 = some z → W p l e room_1 s m #[Value.ref b] below meth c H locs kc ks (lw_Z below #[Value.ref b] s) (F0 m 23 ls [])) : ∀ (h : HP) (r1 : Nat) (r2 : Nat) (r3 : Nat) (x4 : Int32) (H : Heap) (locs : List Loc) (ls : Array Slot) (kc ks : Nat), kc + N * 16 ≤ 600000 → ks + N * 96 ≤ 7290000 → x_Rep E h H → va_S (x_A E) s.heap H locs → lv_has ls 7 [(0, .ref b), (1, .ref (xa E r1)), (2, .ref (xa E r2)), (3, .ref (xa E r3)), (4, .int x4)] → f_L_law_b1487 L xs k23 h r1 r2 r3 x4 = some z → W p l e room_1 s m #[Value.ref b] below meth c H locs kc ks (lw_Z below #[Value.ref b] s) (F0 m 1487 ls []) := by
  intro h r1 r2 r3 x4 H locs ls kc ks hkc hks hR hS hl hf
  obtain ⟨hx, hb, -⟩ := id C0
  unfold f_L_law_b1487 at hf
  have h0 : x_by cL_law 1487 [167, 2, 71] := by unfold x_by; decide +kernel
  obtain ⟨d1487, h0⟩ := de_goto (583) (by decide) h0
  refine lv_goto (tgt := 2070) hx hb d1487 (by decide) ?_
  exact s_L_law_b2070 hE C0 hX hbl hbA hk23 _ _ _ _ _ _ _ _ _ _ (by omega) (by omega) hR hS (lv_sub hl [0, 1, 2, 3, 4] rfl) hf
set_option maxRecDepth 100000 in
set_option maxHeartbeats 8000000 in
theorem s_L_law_b1481 {p : Program} {l : Launch} {e : Env} {s : State} {m : MethodId} {below : List Frame} {meth : Method} {c : Code} {E : XE} {z : XR} {nm : String} {b L : Nat} {xs : Nat → Int32} (hE : E.1 = s.heap.size) (C0 : x_C E p l s m meth c #[Value.ref b] cL_law 7 "GridEngineLaw" nm ret) (hX : va_X b L xs s s.heap) (hbl : b < s.heap.size) (hbA : ¬ x_A E b) {N : Nat} {k23 : HP → Nat → Nat → Nat → Int32 → Option XR} (hk23 : ∀ (h : HP) (r1 : Nat) (r2 : Nat) (r3 : Nat) (x4 : Int32) (H : Heap) (locs : List Loc) (ls : Array Slot) (kc ks : Nat), kc + N * 16 ≤ 600000 → ks + N * 96 ≤ 7290000 → x_Rep E h H → va_S (x_A E) s.heap H locs → lv_has ls 7 [(0, .ref b), (1, .ref (xa E r1)), (2, .ref (xa E r2)), (3, .ref (xa E r3)), (4, .int x4)] → k23 h r1 r2 r3 x4 = some z → W p l e room_1 s m #[Value.ref b] below meth c H locs kc ks (lw_Z below #[Value.ref b] s) (F0 m 23 ls [])) : ∀ (h : HP) (t0 : Int64) (t1 : Int64) (r1 : Nat) (r2 : Nat) (r3 : Nat) (x4 : Int32) (H : Heap) (locs : List Loc) (ls : Array Slot) (kc ks : Nat), kc + N * 16 ≤ 600000 → ks + N * 96 ≤ 7290000 → x_Rep E h H → va_S (x_A E) s.heap H locs → lv_has ls 7 [(0, .ref b), (1, .ref (xa E r1)), (2, .ref (xa E r2)), (3, .ref (xa E r3)), (4, .int x4)] → f_L_law_b1481 L xs k23 h t0 t1 r1 r2 r3 x4 = some z → W p l e room_1 s m #[Value.ref b] below meth c H locs kc ks (lw_Z below #[Value.ref b] s) (F0 m 1481 ls [.long t0, .long t1]) := by
  intro h t0 t1 r1 r2 r3 x4 H locs ls kc ks hkc hks hR hS hl hf
  obtain ⟨hx, hb, -⟩ := id C0
  unfold f_L_law_b1481 at hf
  have h0 : x_by cL_law 1481 [148, 153, 0, 5] := by unfold x_by; decide +kernel
  obtain ⟨d1481, h0⟩ := de_lcmp h0
  obtain ⟨d1482, h0⟩ := de_if_eq (5) (by decide) h0
  refine W.lcmp hx hb d1481 ?_
  refine lv_if_eq (tgt := 1487) hx hb d1482 (by decide) (fun q => ?_) (fun q => ?_)
  · have hf := x_pos q hf
    exact s_L_law_b1487 hE C0 hX hbl hbA hk23 _ _ _ _ _ _ _ _ _ _ (by omega) (by omega) hR hS (lv_sub hl [0, 1, 2, 3, 4] rfl) hf
  · have hf := x_neg q hf
    have h0 : x_by cL_law 1485 [3, 172] := by unfold x_by; decide +kernel
    obtain ⟨d1485, h0⟩ := de_iconst_0 h0
    obtain ⟨d1486, h0⟩ := de_ireturn h0
    refine lv_iconst (v := 0) hx hb d1485 (by decide) ?_
    cases hf
set_option maxRecDepth 100000 in
set_option maxHeartbeats 8000000 in
theorem s_L_law_b1555 {p : Program} {l : Launch} {e : Env} {s : State} {m : MethodId} {below : List Frame} {meth : Method} {c : Code} {E : XE} {z : XR} {nm : String} {b L : Nat} {xs : Nat → Int32} (hE : E.1 = s.heap.size) (C0 : x_C E p l s m meth c #[Value.ref b] cL_law 7 "GridEngineLaw" nm ret) (hX : va_X b L xs s s.heap) (hbl : b < s.heap.size) (hbA : ¬ x_A E b) {N : Nat} {k23 : HP → Nat → Nat → Nat → Int32 → Option XR} (hk23 : ∀ (h : HP) (r1 : Nat) (r2 : Nat) (r3 : Nat) (x4 : Int32) (H : Heap) (locs : List Loc) (ls : Array Slot) (kc ks : Nat), kc + N * 16 ≤ 600000 → ks + N * 96 ≤ 7290000 → x_Rep E h H → va_S (x_A E) s.heap H locs → lv_has ls 7 [(0, .ref b), (1, .ref (xa E r1)), (2, .ref (xa E r2)), (3, .ref (xa E r3)), (4, .int x4)] → k23 h r1 r2 r3 x4 = some z → W p l e room_1 s m #[Value.ref b] below meth c H locs kc ks (lw_Z below #[Value.ref b] s) (F0 m 23 ls [])) : ∀ (h : HP) (r1 : Nat) (r2 : Nat) (r3 : Nat) (x4 : Int32) (H : Heap) (locs : List Loc) (ls : Array Slot) (kc ks : Nat), kc + N * 16 ≤ 600000 → ks + N * 96 ≤ 7290000 → x_Rep E h H → va_S (x_A E) s.heap H locs → lv_has ls 7 [(0, .ref b), (1, .ref (xa E r1)), (2, .ref (xa E r2)), (3, .ref (xa E r3)), (4, .int x4)] → f_L_law_b1555 L xs k23 h r1 r2 r3 x4 = some z → W p l e room_1 s m #[Value.ref b] below meth c H locs kc ks (lw_Z below #[Value.ref b] s) (F0 m 1555 ls []) := by
  intro h r1 r2 r3 x4 H locs ls kc ks hkc hks hR hS hl hf
  obtain ⟨hx, hb, -⟩ := id C0
  unfold f_L_law_b1555 at hf
  have h0 : x_by cL_law 1555 [167, 2, 3] := by unfold x_by; decide +kernel
  obtain ⟨d1555, h0⟩ := de_goto (515) (by decide) h0
  refine lv_goto (tgt := 2070) hx hb d1555 (by decide) ?_
  exact s_L_law_b2070 hE C0 hX hbl hbA hk23 _ _ _ _ _ _ _ _ _ _ (by omega) (by omega) hR hS (lv_sub hl [0, 1, 2, 3, 4] rfl) hf
set_option maxRecDepth 100000 in
set_option maxHeartbeats 8000000 in
theorem s_L_law_b1623 {p : Program} {l : Launch} {e : Env} {s : State} {m : MethodId} {below : List Frame} {meth : Method} {c : Code} {E : XE} {z : XR} {nm : String} {b L : Nat} {xs : Nat → Int32} (hE : E.1 = s.heap.size) (C0 : x_C E p l s m meth c #[Value.ref b] cL_law 7 "GridEngineLaw" nm ret) (hX : va_X b L xs s s.heap) (hbl : b < s.heap.size) (hbA : ¬ x_A E b) {N : Nat} {k23 : HP → Nat → Nat → Nat → Int32 → Option XR} (hk23 : ∀ (h : HP) (r1 : Nat) (r2 : Nat) (r3 : Nat) (x4 : Int32) (H : Heap) (locs : List Loc) (ls : Array Slot) (kc ks : Nat), kc + N * 16 ≤ 600000 → ks + N * 96 ≤ 7290000 → x_Rep E h H → va_S (x_A E) s.heap H locs → lv_has ls 7 [(0, .ref b), (1, .ref (xa E r1)), (2, .ref (xa E r2)), (3, .ref (xa E r3)), (4, .int x4)] → k23 h r1 r2 r3 x4 = some z → W p l e room_1 s m #[Value.ref b] below meth c H locs kc ks (lw_Z below #[Value.ref b] s) (F0 m 23 ls [])) : ∀ (h : HP) (r1 : Nat) (r2 : Nat) (r3 : Nat) (x4 : Int32) (H : Heap) (locs : List Loc) (ls : Array Slot) (kc ks : Nat), kc + N * 16 ≤ 600000 → ks + N * 96 ≤ 7290000 → x_Rep E h H → va_S (x_A E) s.heap H locs → lv_has ls 7 [(0, .ref b), (1, .ref (xa E r1)), (2, .ref (xa E r2)), (3, .ref (xa E r3)), (4, .int x4)] → f_L_law_b1623 L xs k23 h r1 r2 r3 x4 = some z → W p l e room_1 s m #[Value.ref b] below meth c H locs kc ks (lw_Z below #[Value.ref b] s) (F0 m 1623 ls []) := by
  intro h r1 r2 r3 x4 H locs ls kc ks hkc hks hR hS hl hf
  obtain ⟨hx, hb, -⟩ := id C0
  unfold f_L_law_b1623 at hf
  have h0 : x_by cL_law 1623 [167, 1, 191] := by unfold x_by; decide +kernel
  obtain ⟨d1623, h0⟩ := de_goto (447) (by decide) h0
  refine lv_goto (tgt := 2070) hx hb d1623 (by decide) ?_
  exact s_L_law_b2070 hE C0 hX hbl hbA hk23 _ _ _ _ _ _ _ _ _ _ (by omega) (by omega) hR hS (lv_sub hl [0, 1, 2, 3, 4] rfl) hf
set_option maxRecDepth 100000 in
set_option maxHeartbeats 8000000 in
theorem s_L_law_b1679 {p : Program} {l : Launch} {e : Env} {s : State} {m : MethodId} {below : List Frame} {meth : Method} {c : Code} {E : XE} {z : XR} {nm : String} {b L : Nat} {xs : Nat → Int32} (hE : E.1 = s.heap.size) (C0 : x_C E p l s m meth c #[Value.ref b] cL_law 7 "GridEngineLaw" nm ret) (hX : va_X b L xs s s.heap) (hbl : b < s.heap.size) (hbA : ¬ x_A E b) {N : Nat} {k23 : HP → Nat → Nat → Nat → Int32 → Option XR} (hk23 : ∀ (h : HP) (r1 : Nat) (r2 : Nat) (r3 : Nat) (x4 : Int32) (H : Heap) (locs : List Loc) (ls : Array Slot) (kc ks : Nat), kc + N * 16 ≤ 600000 → ks + N * 96 ≤ 7290000 → x_Rep E h H → va_S (x_A E) s.heap H locs → lv_has ls 7 [(0, .ref b), (1, .ref (xa E r1)), (2, .ref (xa E r2)), (3, .ref (xa E r3)), (4, .int x4)] → k23 h r1 r2 r3 x4 = some z → W p l e room_1 s m #[Value.ref b] below meth c H locs kc ks (lw_Z below #[Value.ref b] s) (F0 m 23 ls [])) : ∀ (h : HP) (r1 : Nat) (r2 : Nat) (r3 : Nat) (x4 : Int32) (H : Heap) (locs : List Loc) (ls : Array Slot) (kc ks : Nat), kc + N * 16 ≤ 600000 → ks + N * 96 ≤ 7290000 → x_Rep E h H → va_S (x_A E) s.heap H locs → lv_has ls 7 [(0, .ref b), (1, .ref (xa E r1)), (2, .ref (xa E r2)), (3, .ref (xa E r3)), (4, .int x4)] → f_L_law_b1679 L xs k23 h r1 r2 r3 x4 = some z → W p l e room_1 s m #[Value.ref b] below meth c H locs kc ks (lw_Z below #[Value.ref b] s) (F0 m 1679 ls []) := by
  intro h r1 r2 r3 x4 H locs ls kc ks hkc hks hR hS hl hf
  obtain ⟨hx, hb, -⟩ := id C0
  unfold f_L_law_b1679 at hf
  have h0 : x_by cL_law 1679 [167, 1, 135] := by unfold x_by; decide +kernel
  obtain ⟨d1679, h0⟩ := de_goto (391) (by decide) h0
  refine lv_goto (tgt := 2070) hx hb d1679 (by decide) ?_
  exact s_L_law_b2070 hE C0 hX hbl hbA hk23 _ _ _ _ _ _ _ _ _ _ (by omega) (by omega) hR hS (lv_sub hl [0, 1, 2, 3, 4] rfl) hf
set_option maxRecDepth 100000 in
set_option maxHeartbeats 8000000 in
theorem s_L_law_b1759 {p : Program} {l : Launch} {e : Env} {s : State} {m : MethodId} {below : List Frame} {meth : Method} {c : Code} {E : XE} {z : XR} {nm : String} {b L : Nat} {xs : Nat → Int32} (hE : E.1 = s.heap.size) (C0 : x_C E p l s m meth c #[Value.ref b] cL_law 7 "GridEngineLaw" nm ret) (hX : va_X b L xs s s.heap) (hbl : b < s.heap.size) (hbA : ¬ x_A E b) {N : Nat} {k23 : HP → Nat → Nat → Nat → Int32 → Option XR} (hk23 : ∀ (h : HP) (r1 : Nat) (r2 : Nat) (r3 : Nat) (x4 : Int32) (H : Heap) (locs : List Loc) (ls : Array Slot) (kc ks : Nat), kc + N * 16 ≤ 600000 → ks + N * 96 ≤ 7290000 → x_Rep E h H → va_S (x_A E) s.heap H locs → lv_has ls 7 [(0, .ref b), (1, .ref (xa E r1)), (2, .ref (xa E r2)), (3, .ref (xa E r3)), (4, .int x4)] → k23 h r1 r2 r3 x4 = some z → W p l e room_1 s m #[Value.ref b] below meth c H locs kc ks (lw_Z below #[Value.ref b] s) (F0 m 23 ls [])) : ∀ (h : HP) (r1 : Nat) (r2 : Nat) (r3 : Nat) (x4 : Int32) (H : Heap) (locs : List Loc) (ls : Array Slot) (kc ks : Nat), kc + N * 16 ≤ 600000 → ks + N * 96 ≤ 7290000 → x_Rep E h H → va_S (x_A E) s.heap H locs → lv_has ls 7 [(0, .ref b), (1, .ref (xa E r1)), (2, .ref (xa E r2)), (3, .ref (xa E r3)), (4, .int x4)] → f_L_law_b1759 L xs k23 h r1 r2 r3 x4 = some z → W p l e room_1 s m #[Value.ref b] below meth c H locs kc ks (lw_Z below #[Value.ref b] s) (F0 m 1759 ls []) := by
  intro h r1 r2 r3 x4 H locs ls kc ks hkc hks hR hS hl hf
  obtain ⟨hx, hb, -⟩ := id C0
  unfold f_L_law_b1759 at hf
  have h0 : x_by cL_law 1759 [167, 1, 55] := by unfold x_by; decide +kernel
  obtain ⟨d1759, h0⟩ := de_goto (311) (by decide) h0
  refine lv_goto (tgt := 2070) hx hb d1759 (by decide) ?_
  exact s_L_law_b2070 hE C0 hX hbl hbA hk23 _ _ _ _ _ _ _ _ _ _ (by omega) (by omega) hR hS (lv_sub hl [0, 1, 2, 3, 4] rfl) hf
set_option maxRecDepth 100000 in
set_option maxHeartbeats 8000000 in
theorem s_L_law_b1843 {p : Program} {l : Launch} {e : Env} {s : State} {m : MethodId} {below : List Frame} {meth : Method} {c : Code} {E : XE} {z : XR} {nm : String} {b L : Nat} {xs : Nat → Int32} (hE : E.1 = s.heap.size) (C0 : x_C E p l s m meth c #[Value.ref b] cL_law 7 "GridEngineLaw" nm ret) (hX : va_X b L xs s s.heap) (hbl : b < s.heap.size) (hbA : ¬ x_A E b) {N : Nat} {k23 : HP → Nat → Nat → Nat → Int32 → Option XR} (hk23 : ∀ (h : HP) (r1 : Nat) (r2 : Nat) (r3 : Nat) (x4 : Int32) (H : Heap) (locs : List Loc) (ls : Array Slot) (kc ks : Nat), kc + N * 16 ≤ 600000 → ks + N * 96 ≤ 7290000 → x_Rep E h H → va_S (x_A E) s.heap H locs → lv_has ls 7 [(0, .ref b), (1, .ref (xa E r1)), (2, .ref (xa E r2)), (3, .ref (xa E r3)), (4, .int x4)] → k23 h r1 r2 r3 x4 = some z → W p l e room_1 s m #[Value.ref b] below meth c H locs kc ks (lw_Z below #[Value.ref b] s) (F0 m 23 ls [])) : ∀ (h : HP) (r1 : Nat) (r2 : Nat) (r3 : Nat) (x4 : Int32) (H : Heap) (locs : List Loc) (ls : Array Slot) (kc ks : Nat), kc + N * 16 ≤ 600000 → ks + N * 96 ≤ 7290000 → x_Rep E h H → va_S (x_A E) s.heap H locs → lv_has ls 7 [(0, .ref b), (1, .ref (xa E r1)), (2, .ref (xa E r2)), (3, .ref (xa E r3)), (4, .int x4)] → f_L_law_b1843 L xs k23 h r1 r2 r3 x4 = some z → W p l e room_1 s m #[Value.ref b] below meth c H locs kc ks (lw_Z below #[Value.ref b] s) (F0 m 1843 ls []) := by
  intro h r1 r2 r3 x4 H locs ls kc ks hkc hks hR hS hl hf
  obtain ⟨hx, hb, -⟩ := id C0
  unfold f_L_law_b1843 at hf
  have h0 : x_by cL_law 1843 [167, 0, 227] := by unfold x_by; decide +kernel
  obtain ⟨d1843, h0⟩ := de_goto (227) (by decide) h0
  refine lv_goto (tgt := 2070) hx hb d1843 (by decide) ?_
  exact s_L_law_b2070 hE C0 hX hbl hbA hk23 _ _ _ _ _ _ _ _ _ _ (by omega) (by omega) hR hS (lv_sub hl [0, 1, 2, 3, 4] rfl) hf
set_option maxRecDepth 100000 in
set_option maxHeartbeats 8000000 in
theorem s_L_law_b1810 {p : Program} {l : Launch} {e : Env} {s : State} {m : MethodId} {below : List Frame} {meth : Method} {c : Code} {E : XE} {z : XR} {nm : String} {b L : Nat} {xs : Nat → Int32} (hE : E.1 = s.heap.size) (C0 : x_C E p l s m meth c #[Value.ref b] cL_law 7 "GridEngineLaw" nm ret) (hX : va_X b L xs s s.heap) (hbl : b < s.heap.size) (hbA : ¬ x_A E b) {N : Nat} {k23 : HP → Nat → Nat → Nat → Int32 → Option XR} (hk23 : ∀ (h : HP) (r1 : Nat) (r2 : Nat) (r3 : Nat) (x4 : Int32) (H : Heap) (locs : List Loc) (ls : Array Slot) (kc ks : Nat), kc + N * 16 ≤ 600000 → ks + N * 96 ≤ 7290000 → x_Rep E h H → va_S (x_A E) s.heap H locs → lv_has ls 7 [(0, .ref b), (1, .ref (xa E r1)), (2, .ref (xa E r2)), (3, .ref (xa E r3)), (4, .int x4)] → k23 h r1 r2 r3 x4 = some z → W p l e room_1 s m #[Value.ref b] below meth c H locs kc ks (lw_Z below #[Value.ref b] s) (F0 m 23 ls [])) : ∀ (h : HP) (t0 : Int32) (t1 : Int32) (t2 : Nat) (r1 : Nat) (r2 : Nat) (r3 : Nat) (x4 : Int32) (x5 : Int32) (H : Heap) (locs : List Loc) (ls : Array Slot) (kc ks : Nat), kc + N * 16 ≤ 600000 → ks + N * 96 ≤ 7290000 → x_Rep E h H → va_S (x_A E) s.heap H locs → lv_has ls 7 [(0, .ref b), (1, .ref (xa E r1)), (2, .ref (xa E r2)), (3, .ref (xa E r3)), (4, .int x4), (5, .int x5)] → f_L_law_b1810 L xs k23 h t0 t1 t2 r1 r2 r3 x4 x5 = some z → W p l e room_1 s m #[Value.ref b] below meth c H locs kc ks (lw_Z below #[Value.ref b] s) (F0 m 1810 ls [.int t0, .int t1, .ref (xa E t2)]) := by
  intro h t0 t1 t2 r1 r2 r3 x4 x5 H locs ls kc ks hkc hks hR hS hl hf
  obtain ⟨hx, hb, -⟩ := id C0
  unfold f_L_law_b1810 at hf
  have h0 : x_by cL_law 1810 [182, 0, 195, 54, 6, 44, 182, 0, 117, 21, 5, 159, 0, 5] := by unfold x_by; decide +kernel
  obtain ⟨d1810, h0⟩ := de_invokevirtual 195 (by decide) h0
  obtain ⟨d1813, h0⟩ := de_istore h0
  obtain ⟨d1815, h0⟩ := de_aload_n2 h0
  obtain ⟨d1816, h0⟩ := de_invokevirtual 117 (by decide) h0
  obtain ⟨d1819, h0⟩ := de_iload h0
  obtain ⟨d1821, h0⟩ := de_icmp_eq (5) (by decide) h0
  obtain ⟨hs9, hf⟩ := x_if hf
  refine x_thenLI hS hf (fun z0 e0 => x_runV C0 hR hS me_X8_unmet wi_X8_unmet wl_X8_unmet ml_L_195 hs9 xcl_8 (As := [.int t1, .int t0]) (ct_X8_unmet E l C0.2.2.2.2.2.2.2.1 _ t2 t1 t0) rfl rfl hl.1 (Nat.le_of_ble_eq_true rfl) d1810 ⟨(Nat.le_of_ble_eq_true rfl), (Nat.le_of_ble_eq_true rfl)⟩ ⟨(by show _ ≤ 601024; omega), (by show _ ≤ 7293034; omega)⟩ e0) (fun h9 i1 H locs hR hS hf => ?_)
  refine lv_istore (lv' := [(6, .int i1), (0, .ref b), (1, .ref (xa E r1)), (2, .ref (xa E r2)), (3, .ref (xa E r3)), (4, .int x4), (5, .int x5)]) hx hb d1813 hl (by decide) rfl (fun ls hl => ?_)
  refine lv_aload_n hx hb d1815 rfl (lv_at hl 3 rfl) ?_
  obtain ⟨hs9, hf⟩ := x_if hf
  refine x_thenLI hS hf (fun z0 e0 => x_runV C0 hR hS me_X8_thrown wi_X8_thrown wl_X8_thrown ml_L_117 hs9 xcl_8 (As := []) (ct_X8_thrown E l C0.2.2.2.2.2.2.2.1 _ r2) rfl rfl hl.1 (Nat.le_of_ble_eq_true rfl) d1816 ⟨(Nat.le_of_ble_eq_true rfl), (Nat.le_of_ble_eq_true rfl)⟩ ⟨(by show _ ≤ 601024; omega), (by show _ ≤ 7293034; omega)⟩ e0) (fun h9 i3 H locs hR hS hf => ?_)
  refine lv_iload hx hb d1819 (lv_at hl 6 rfl) ?_
  refine lv_icmp_eq (tgt := 1826) hx hb d1821 (by decide) (fun q => ?_) (fun q => ?_)
  · have hf := x_pos q hf
    have h0 : x_by cL_law 1826 [21, 5, 154, 0, 15] := by unfold x_by; decide +kernel
    obtain ⟨d1826, h0⟩ := de_iload h0
    obtain ⟨d1828, h0⟩ := de_if_ne (15) (by decide) h0
    refine lv_iload hx hb d1826 (lv_at hl 6 rfl) ?_
    refine lv_if_ne (tgt := 1843) hx hb d1828 (by decide) (fun q => ?_) (fun q => ?_)
    · have hf := x_neg q hf
      exact s_L_law_b1843 hE C0 hX hbl hbA hk23 _ _ _ _ _ _ _ _ _ _ (by omega) (by omega) hR hS (lv_sub hl [1, 2, 3, 4, 5] rfl) hf
    · have hf := x_pos q hf
      have h0 : x_by cL_law 1831 [45, 3, 47, 21, 6, 133, 148, 153, 0, 5] := by unfold x_by; decide +kernel
      obtain ⟨d1831, h0⟩ := de_aload_n3 h0
      obtain ⟨d1832, h0⟩ := de_iconst_0 h0
      obtain ⟨d1833, h0⟩ := de_laload h0
      obtain ⟨d1834, h0⟩ := de_iload h0
      obtain ⟨d1836, h0⟩ := de_i2l h0
      obtain ⟨d1837, h0⟩ := de_lcmp h0
      obtain ⟨d1838, h0⟩ := de_if_eq (5) (by decide) h0
      refine lv_aload_n hx hb d1831 rfl (lv_at hl 4 rfl) ?_
      refine lv_iconst (v := 0) hx hb d1832 (by decide) ?_
      refine x_lald C0 hR hf d1833 (fun j5 hf => ?_)
      refine lv_iload hx hb d1834 (lv_at hl 0 rfl) ?_
      refine lv_i2l hx hb d1836 rfl ?_
      refine W.lcmp hx hb d1837 ?_
      refine lv_if_eq (tgt := 1843) hx hb d1838 (by decide) (fun q => ?_) (fun q => ?_)
      · have hf := x_pos q hf
        exact s_L_law_b1843 hE C0 hX hbl hbA hk23 _ _ _ _ _ _ _ _ _ _ (by omega) (by omega) hR hS (lv_sub hl [1, 2, 3, 4, 5] rfl) hf
      · have hf := x_neg q hf
        have h0 : x_by cL_law 1841 [3, 172] := by unfold x_by; decide +kernel
        obtain ⟨d1841, h0⟩ := de_iconst_0 h0
        obtain ⟨d1842, h0⟩ := de_ireturn h0
        refine lv_iconst (v := 0) hx hb d1841 (by decide) ?_
        cases hf
  · have hf := x_neg q hf
    have h0 : x_by cL_law 1824 [3, 172] := by unfold x_by; decide +kernel
    obtain ⟨d1824, h0⟩ := de_iconst_0 h0
    obtain ⟨d1825, h0⟩ := de_ireturn h0
    refine lv_iconst (v := 0) hx hb d1824 (by decide) ?_
    cases hf
set_option maxRecDepth 100000 in
set_option maxHeartbeats 8000000 in
theorem s_L_law_b1783 {p : Program} {l : Launch} {e : Env} {s : State} {m : MethodId} {below : List Frame} {meth : Method} {c : Code} {E : XE} {z : XR} {nm : String} {b L : Nat} {xs : Nat → Int32} (hE : E.1 = s.heap.size) (C0 : x_C E p l s m meth c #[Value.ref b] cL_law 7 "GridEngineLaw" nm ret) (hX : va_X b L xs s s.heap) (hbl : b < s.heap.size) (hbA : ¬ x_A E b) {N : Nat} {k23 : HP → Nat → Nat → Nat → Int32 → Option XR} (hk23 : ∀ (h : HP) (r1 : Nat) (r2 : Nat) (r3 : Nat) (x4 : Int32) (H : Heap) (locs : List Loc) (ls : Array Slot) (kc ks : Nat), kc + N * 16 ≤ 600000 → ks + N * 96 ≤ 7290000 → x_Rep E h H → va_S (x_A E) s.heap H locs → lv_has ls 7 [(0, .ref b), (1, .ref (xa E r1)), (2, .ref (xa E r2)), (3, .ref (xa E r3)), (4, .int x4)] → k23 h r1 r2 r3 x4 = some z → W p l e room_1 s m #[Value.ref b] below meth c H locs kc ks (lw_Z below #[Value.ref b] s) (F0 m 23 ls [])) : ∀ (h : HP) (t0 : Int32) (t1 : Int32) (t2 : Nat) (r1 : Nat) (r2 : Nat) (r3 : Nat) (x4 : Int32) (H : Heap) (locs : List Loc) (ls : Array Slot) (kc ks : Nat), kc + (N + 1) * 16 ≤ 600000 → ks + (N + 1) * 96 ≤ 7290000 → x_Rep E h H → va_S (x_A E) s.heap H locs → lv_has ls 7 [(0, .ref b), (1, .ref (xa E r1)), (2, .ref (xa E r2)), (3, .ref (xa E r3)), (4, .int x4)] → f_L_law_b1783 L xs k23 h t0 t1 t2 r1 r2 r3 x4 = some z → W p l e room_1 s m #[Value.ref b] below meth c H locs kc ks (lw_Z below #[Value.ref b] s) (F0 m 1783 ls [.int t0, .int t1, .ref (xa E t2)]) := by
  intro h t0 t1 t2 r1 r2 r3 x4 H locs ls kc ks hkc hks hR hS hl hf
  obtain ⟨hx, hb, -⟩ := id C0
  unfold f_L_law_b1783 at hf
  have h0 : x_by cL_law 1783 [45, 184, 0, 193, 54, 5, 44, 42, 21, 4, 4, 96, 46, 42, 21, 4, 5, 96, 46, 153, 0, 7] := by unfold x_by; decide +kernel
  obtain ⟨d1783, h0⟩ := de_aload_n3 h0
  obtain ⟨d1784, h0⟩ := de_invokestatic 193 (by decide) h0
  obtain ⟨d1787, h0⟩ := de_istore h0
  obtain ⟨d1789, h0⟩ := de_aload_n2 h0
  obtain ⟨d1790, h0⟩ := de_aload_n0 h0
  obtain ⟨d1791, h0⟩ := de_iload h0
  obtain ⟨d1793, h0⟩ := de_iconst_1 h0
  obtain ⟨d1794, h0⟩ := de_iadd h0
  obtain ⟨d1795, h0⟩ := de_iaload h0
  obtain ⟨d1796, h0⟩ := de_aload_n0 h0
  obtain ⟨d1797, h0⟩ := de_iload h0
  obtain ⟨d1799, h0⟩ := de_iconst_2 h0
  obtain ⟨d1800, h0⟩ := de_iadd h0
  obtain ⟨d1801, h0⟩ := de_iaload h0
  obtain ⟨d1802, h0⟩ := de_if_eq (7) (by decide) h0
  refine lv_aload_n hx hb d1783 rfl (lv_at hl 3 rfl) ?_
  refine x_thenLI hS hf (fun z0 e0 => x_runSX C0 hR hS me_L_unmet wt_L_unmet ml_L_193 (As := [.ref (xa E t2), .int t1, .int t0, .ref (xa E r3)]) (ct_L_unmet E l C0.2.2.2.2.2.2.2.1 _ t2 t1 t0 r3) rfl rfl hl.1 (Nat.le_of_ble_eq_true rfl) d1784 ⟨(Nat.le_of_ble_eq_true rfl), (Nat.le_of_ble_eq_true rfl)⟩ ⟨(by show _ ≤ 601024; omega), (by show _ ≤ 7293034; omega)⟩ e0) (fun h9 i1 H locs hR hS hf => ?_)
  refine lv_istore (lv' := [(5, .int i1), (0, .ref b), (1, .ref (xa E r1)), (2, .ref (xa E r2)), (3, .ref (xa E r3)), (4, .int x4)]) hx hb d1787 hl (by decide) rfl (fun ls hl => ?_)
  refine lv_aload_n hx hb d1789 rfl (lv_at hl 3 rfl) ?_
  refine lv_aload_n hx hb d1790 rfl (lv_at hl 1 rfl) ?_
  refine lv_iload hx hb d1791 (lv_at hl 5 rfl) ?_
  refine lv_iconst (v := 1) hx hb d1793 (by decide) ?_
  refine lv_iadd hx hb d1794 ?_
  obtain ⟨hin, hf⟩ := x_sl_el hf
  refine va_sld hx hb hX hbl hbA hS hin d1795 ?_
  refine lv_aload_n hx hb d1796 rfl (lv_at hl 1 rfl) ?_
  refine lv_iload hx hb d1797 (lv_at hl 5 rfl) ?_
  refine lv_iconst (v := 2) hx hb d1799 (by decide) ?_
  refine lv_iadd hx hb d1800 ?_
  obtain ⟨hin, hf⟩ := x_sl_el hf
  refine va_sld hx hb hX hbl hbA hS hin d1801 ?_
  refine lv_if_eq (tgt := 1809) hx hb d1802 (by decide) (fun q => ?_) (fun q => ?_)
  · have hf := x_pos q hf
    have h0 : x_by cL_law 1809 [3] := by unfold x_by; decide +kernel
    obtain ⟨d1809, h0⟩ := de_iconst_0 h0
    refine lv_iconst (v := 0) hx hb d1809 (by decide) ?_
    exact s_L_law_b1810 hE C0 hX hbl hbA hk23 _ _ _ _ _ _ _ _ _ _ _ _ _ _ (by omega) (by omega) hR hS (lv_sub hl [1, 2, 3, 4, 5, 0] rfl) hf
  · have hf := x_neg q hf
    have h0 : x_by cL_law 1805 [4, 167, 0, 4] := by unfold x_by; decide +kernel
    obtain ⟨d1805, h0⟩ := de_iconst_1 h0
    obtain ⟨d1806, h0⟩ := de_goto (4) (by decide) h0
    refine lv_iconst (v := 1) hx hb d1805 (by decide) ?_
    refine lv_goto (tgt := 1810) hx hb d1806 (by decide) ?_
    exact s_L_law_b1810 hE C0 hX hbl hbA hk23 _ _ _ _ _ _ _ _ _ _ _ _ _ _ (by omega) (by omega) hR hS (lv_sub hl [1, 2, 3, 4, 5, 0] rfl) hf
set_option maxRecDepth 100000 in
set_option maxHeartbeats 8000000 in
theorem s_L_law_b1911 {p : Program} {l : Launch} {e : Env} {s : State} {m : MethodId} {below : List Frame} {meth : Method} {c : Code} {E : XE} {z : XR} {nm : String} {b L : Nat} {xs : Nat → Int32} (hE : E.1 = s.heap.size) (C0 : x_C E p l s m meth c #[Value.ref b] cL_law 7 "GridEngineLaw" nm ret) (hX : va_X b L xs s s.heap) (hbl : b < s.heap.size) (hbA : ¬ x_A E b) {N : Nat} {k23 : HP → Nat → Nat → Nat → Int32 → Option XR} (hk23 : ∀ (h : HP) (r1 : Nat) (r2 : Nat) (r3 : Nat) (x4 : Int32) (H : Heap) (locs : List Loc) (ls : Array Slot) (kc ks : Nat), kc + N * 16 ≤ 600000 → ks + N * 96 ≤ 7290000 → x_Rep E h H → va_S (x_A E) s.heap H locs → lv_has ls 7 [(0, .ref b), (1, .ref (xa E r1)), (2, .ref (xa E r2)), (3, .ref (xa E r3)), (4, .int x4)] → k23 h r1 r2 r3 x4 = some z → W p l e room_1 s m #[Value.ref b] below meth c H locs kc ks (lw_Z below #[Value.ref b] s) (F0 m 23 ls [])) : ∀ (h : HP) (r1 : Nat) (r2 : Nat) (r3 : Nat) (x4 : Int32) (H : Heap) (locs : List Loc) (ls : Array Slot) (kc ks : Nat), kc + N * 16 ≤ 600000 → ks + N * 96 ≤ 7290000 → x_Rep E h H → va_S (x_A E) s.heap H locs → lv_has ls 7 [(0, .ref b), (1, .ref (xa E r1)), (2, .ref (xa E r2)), (3, .ref (xa E r3)), (4, .int x4)] → f_L_law_b1911 L xs k23 h r1 r2 r3 x4 = some z → W p l e room_1 s m #[Value.ref b] below meth c H locs kc ks (lw_Z below #[Value.ref b] s) (F0 m 1911 ls []) := by
  intro h r1 r2 r3 x4 H locs ls kc ks hkc hks hR hS hl hf
  obtain ⟨hx, hb, -⟩ := id C0
  unfold f_L_law_b1911 at hf
  have h0 : x_by cL_law 1911 [167, 0, 159] := by unfold x_by; decide +kernel
  obtain ⟨d1911, h0⟩ := de_goto (159) (by decide) h0
  refine lv_goto (tgt := 2070) hx hb d1911 (by decide) ?_
  exact s_L_law_b2070 hE C0 hX hbl hbA hk23 _ _ _ _ _ _ _ _ _ _ (by omega) (by omega) hR hS (lv_sub hl [0, 1, 2, 3, 4] rfl) hf
set_option maxRecDepth 100000 in
set_option maxHeartbeats 8000000 in
theorem s_L_law_b1967 {p : Program} {l : Launch} {e : Env} {s : State} {m : MethodId} {below : List Frame} {meth : Method} {c : Code} {E : XE} {z : XR} {nm : String} {b L : Nat} {xs : Nat → Int32} (hE : E.1 = s.heap.size) (C0 : x_C E p l s m meth c #[Value.ref b] cL_law 7 "GridEngineLaw" nm ret) (hX : va_X b L xs s s.heap) (hbl : b < s.heap.size) (hbA : ¬ x_A E b) {N : Nat} {k23 : HP → Nat → Nat → Nat → Int32 → Option XR} (hk23 : ∀ (h : HP) (r1 : Nat) (r2 : Nat) (r3 : Nat) (x4 : Int32) (H : Heap) (locs : List Loc) (ls : Array Slot) (kc ks : Nat), kc + N * 16 ≤ 600000 → ks + N * 96 ≤ 7290000 → x_Rep E h H → va_S (x_A E) s.heap H locs → lv_has ls 7 [(0, .ref b), (1, .ref (xa E r1)), (2, .ref (xa E r2)), (3, .ref (xa E r3)), (4, .int x4)] → k23 h r1 r2 r3 x4 = some z → W p l e room_1 s m #[Value.ref b] below meth c H locs kc ks (lw_Z below #[Value.ref b] s) (F0 m 23 ls [])) : ∀ (h : HP) (r1 : Nat) (r2 : Nat) (r3 : Nat) (x4 : Int32) (H : Heap) (locs : List Loc) (ls : Array Slot) (kc ks : Nat), kc + N * 16 ≤ 600000 → ks + N * 96 ≤ 7290000 → x_Rep E h H → va_S (x_A E) s.heap H locs → lv_has ls 7 [(0, .ref b), (1, .ref (xa E r1)), (2, .ref (xa E r2)), (3, .ref (xa E r3)), (4, .int x4)] → f_L_law_b1967 L xs k23 h r1 r2 r3 x4 = some z → W p l e room_1 s m #[Value.ref b] below meth c H locs kc ks (lw_Z below #[Value.ref b] s) (F0 m 1967 ls []) := by
  intro h r1 r2 r3 x4 H locs ls kc ks hkc hks hR hS hl hf
  obtain ⟨hx, hb, -⟩ := id C0
  unfold f_L_law_b1967 at hf
  have h0 : x_by cL_law 1967 [167, 0, 103] := by unfold x_by; decide +kernel
  obtain ⟨d1967, h0⟩ := de_goto (103) (by decide) h0
  refine lv_goto (tgt := 2070) hx hb d1967 (by decide) ?_
  exact s_L_law_b2070 hE C0 hX hbl hbA hk23 _ _ _ _ _ _ _ _ _ _ (by omega) (by omega) hR hS (lv_sub hl [0, 1, 2, 3, 4] rfl) hf
set_option maxRecDepth 100000 in
set_option maxHeartbeats 8000000 in
theorem s_L_law_b2023 {p : Program} {l : Launch} {e : Env} {s : State} {m : MethodId} {below : List Frame} {meth : Method} {c : Code} {E : XE} {z : XR} {nm : String} {b L : Nat} {xs : Nat → Int32} (hE : E.1 = s.heap.size) (C0 : x_C E p l s m meth c #[Value.ref b] cL_law 7 "GridEngineLaw" nm ret) (hX : va_X b L xs s s.heap) (hbl : b < s.heap.size) (hbA : ¬ x_A E b) {N : Nat} {k23 : HP → Nat → Nat → Nat → Int32 → Option XR} (hk23 : ∀ (h : HP) (r1 : Nat) (r2 : Nat) (r3 : Nat) (x4 : Int32) (H : Heap) (locs : List Loc) (ls : Array Slot) (kc ks : Nat), kc + N * 16 ≤ 600000 → ks + N * 96 ≤ 7290000 → x_Rep E h H → va_S (x_A E) s.heap H locs → lv_has ls 7 [(0, .ref b), (1, .ref (xa E r1)), (2, .ref (xa E r2)), (3, .ref (xa E r3)), (4, .int x4)] → k23 h r1 r2 r3 x4 = some z → W p l e room_1 s m #[Value.ref b] below meth c H locs kc ks (lw_Z below #[Value.ref b] s) (F0 m 23 ls [])) : ∀ (h : HP) (r1 : Nat) (r2 : Nat) (r3 : Nat) (x4 : Int32) (H : Heap) (locs : List Loc) (ls : Array Slot) (kc ks : Nat), kc + N * 16 ≤ 600000 → ks + N * 96 ≤ 7290000 → x_Rep E h H → va_S (x_A E) s.heap H locs → lv_has ls 7 [(0, .ref b), (1, .ref (xa E r1)), (2, .ref (xa E r2)), (3, .ref (xa E r3)), (4, .int x4)] → f_L_law_b2023 L xs k23 h r1 r2 r3 x4 = some z → W p l e room_1 s m #[Value.ref b] below meth c H locs kc ks (lw_Z below #[Value.ref b] s) (F0 m 2023 ls []) := by
  intro h r1 r2 r3 x4 H locs ls kc ks hkc hks hR hS hl hf
  obtain ⟨hx, hb, -⟩ := id C0
  unfold f_L_law_b2023 at hf
  have h0 : x_by cL_law 2023 [167, 0, 47] := by unfold x_by; decide +kernel
  obtain ⟨d2023, h0⟩ := de_goto (47) (by decide) h0
  refine lv_goto (tgt := 2070) hx hb d2023 (by decide) ?_
  exact s_L_law_b2070 hE C0 hX hbl hbA hk23 _ _ _ _ _ _ _ _ _ _ (by omega) (by omega) hR hS (lv_sub hl [0, 1, 2, 3, 4] rfl) hf
set_option maxRecDepth 100000 in
set_option maxHeartbeats 8000000 in
theorem s_L_law_b2067 {p : Program} {l : Launch} {e : Env} {s : State} {m : MethodId} {below : List Frame} {meth : Method} {c : Code} {E : XE} {z : XR} {nm : String} {b L : Nat} {xs : Nat → Int32} (hE : E.1 = s.heap.size) (C0 : x_C E p l s m meth c #[Value.ref b] cL_law 7 "GridEngineLaw" nm ret) (hX : va_X b L xs s s.heap) (hbl : b < s.heap.size) (hbA : ¬ x_A E b) {N : Nat} {k23 : HP → Nat → Nat → Nat → Int32 → Option XR} (hk23 : ∀ (h : HP) (r1 : Nat) (r2 : Nat) (r3 : Nat) (x4 : Int32) (H : Heap) (locs : List Loc) (ls : Array Slot) (kc ks : Nat), kc + N * 16 ≤ 600000 → ks + N * 96 ≤ 7290000 → x_Rep E h H → va_S (x_A E) s.heap H locs → lv_has ls 7 [(0, .ref b), (1, .ref (xa E r1)), (2, .ref (xa E r2)), (3, .ref (xa E r3)), (4, .int x4)] → k23 h r1 r2 r3 x4 = some z → W p l e room_1 s m #[Value.ref b] below meth c H locs kc ks (lw_Z below #[Value.ref b] s) (F0 m 23 ls [])) : ∀ (h : HP) (r1 : Nat) (r2 : Nat) (r3 : Nat) (x4 : Int32) (H : Heap) (locs : List Loc) (ls : Array Slot) (kc ks : Nat), kc + N * 16 ≤ 600000 → ks + N * 96 ≤ 7290000 → x_Rep E h H → va_S (x_A E) s.heap H locs → lv_has ls 7 [(0, .ref b), (1, .ref (xa E r1)), (2, .ref (xa E r2)), (3, .ref (xa E r3)), (4, .int x4)] → f_L_law_b2067 L xs k23 h r1 r2 r3 x4 = some z → W p l e room_1 s m #[Value.ref b] below meth c H locs kc ks (lw_Z below #[Value.ref b] s) (F0 m 2067 ls []) := by
  intro h r1 r2 r3 x4 H locs ls kc ks hkc hks hR hS hl hf
  obtain ⟨hx, hb, -⟩ := id C0
  unfold f_L_law_b2067 at hf
  have h0 : x_by cL_law 2067 [167, 0, 3] := by unfold x_by; decide +kernel
  obtain ⟨d2067, h0⟩ := de_goto (3) (by decide) h0
  refine lv_goto (tgt := 2070) hx hb d2067 (by decide) ?_
  exact s_L_law_b2070 hE C0 hX hbl hbA hk23 _ _ _ _ _ _ _ _ _ _ (by omega) (by omega) hR hS (lv_sub hl [0, 1, 2, 3, 4] rfl) hf
set_option maxRecDepth 100000 in
set_option maxHeartbeats 8000000 in
theorem s_L_law_b23 {p : Program} {l : Launch} {e : Env} {s : State} {m : MethodId} {below : List Frame} {meth : Method} {c : Code} {E : XE} {z : XR} {nm : String} {b L : Nat} {xs : Nat → Int32} (hE : E.1 = s.heap.size) (C0 : x_C E p l s m meth c #[Value.ref b] cL_law 7 "GridEngineLaw" nm ret) (hX : va_X b L xs s s.heap) (hbl : b < s.heap.size) (hbA : ¬ x_A E b) {N : Nat} {k23 : HP → Nat → Nat → Nat → Int32 → Option XR} (hk23 : ∀ (h : HP) (r1 : Nat) (r2 : Nat) (r3 : Nat) (x4 : Int32) (H : Heap) (locs : List Loc) (ls : Array Slot) (kc ks : Nat), kc + N * 16 ≤ 600000 → ks + N * 96 ≤ 7290000 → x_Rep E h H → va_S (x_A E) s.heap H locs → lv_has ls 7 [(0, .ref b), (1, .ref (xa E r1)), (2, .ref (xa E r2)), (3, .ref (xa E r3)), (4, .int x4)] → k23 h r1 r2 r3 x4 = some z → W p l e room_1 s m #[Value.ref b] below meth c H locs kc ks (lw_Z below #[Value.ref b] s) (F0 m 23 ls [])) : ∀ (h : HP) (r1 : Nat) (r2 : Nat) (r3 : Nat) (x4 : Int32) (H : Heap) (locs : List Loc) (ls : Array Slot) (kc ks : Nat), kc + (N + 1) * 16 ≤ 600000 → ks + (N + 1) * 96 ≤ 7290000 → x_Rep E h H → va_S (x_A E) s.heap H locs → lv_has ls 7 [(0, .ref b), (1, .ref (xa E r1)), (2, .ref (xa E r2)), (3, .ref (xa E r3)), (4, .int x4)] → f_L_law_b23 L xs k23 h r1 r2 r3 x4 = some z → W p l e room_1 s m #[Value.ref b] below meth c H locs kc ks (lw_Z below #[Value.ref b] s) (F0 m 23 ls []) := by
  intro h r1 r2 r3 x4 H locs ls kc ks hkc hks hR hS hl hf
  obtain ⟨hx, hb, -⟩ := id C0
  unfold f_L_law_b23 at hf
  have h0 : x_by cL_law 23 [21, 4, 42, 190, 8, 100, 163, 7, 255] := by unfold x_by; decide +kernel
  obtain ⟨d23, h0⟩ := de_iload h0
  obtain ⟨d25, h0⟩ := de_aload_n0 h0
  obtain ⟨d26, h0⟩ := de_arraylength h0
  obtain ⟨d27, h0⟩ := de_iconst_5 h0
  obtain ⟨d28, h0⟩ := de_isub h0
  obtain ⟨d29, h0⟩ := de_icmp_gt (2047) (by decide) h0
  refine lv_iload hx hb d23 (lv_at hl 4 rfl) ?_
  refine lv_aload_n hx hb d25 rfl (lv_at hl 0 rfl) ?_
  refine va_slen hx hb hX hbl hbA hS d26 ?_
  refine lv_iconst (v := 5) hx hb d27 (by decide) ?_
  refine lv_isub hx hb d28 ?_
  refine lv_icmp_gt (tgt := 2076) hx hb d29 (by decide) (fun q => ?_) (fun q => ?_)
  · have hf := x_pos q hf
    have h0 : x_by cL_law 2076 [4, 172] := by unfold x_by; decide +kernel
    obtain ⟨d2076, h0⟩ := de_iconst_1 h0
    obtain ⟨d2077, h0⟩ := de_ireturn h0
    refine lv_iconst (v := 1) hx hb d2076 (by decide) ?_
    refine va_forget (fun q hq => by rw [← hE]; exact hS.2.2 q hq) ?_
    refine W.widen (k := 601024) (n := 7293034) (by omega) (by omega) ?_
    exact lw_ret hx hb C0.2.2.2.2.2.2.2.2.2.1 C0.2.2.2.2.2.2.2.2.1 d2077
  · have hf := x_neg q hf
    have h0 : x_by cL_law 32 [42, 21, 4, 46, 16, 31, 126] := by unfold x_by; decide +kernel
    obtain ⟨d32, h0⟩ := de_aload_n0 h0
    obtain ⟨d33, h0⟩ := de_iload h0
    obtain ⟨d35, h0⟩ := de_iaload h0
    obtain ⟨d36, h0⟩ := de_bipush (31) (by decide) h0
    obtain ⟨d38, h0⟩ := de_iand h0
    have d39 : decode cL_law 39 = .ok (.tableswitch 2031 0 27 #[125, 183, 239, 295, 375, 455, 539, 631, 723, 803, 911, 967, 1035, 1048, 1104, 1172, 1240, 1296, 1376, 1451, 1519, 1587, 1643, 1723, 1807, 1875, 1931, 1987], 125) := by decide +kernel
    refine lv_aload_n hx hb d32 rfl (lv_at hl 0 rfl) ?_
    refine lv_iload hx hb d33 (lv_at hl 4 rfl) ?_
    obtain ⟨hin, hf⟩ := x_sl_el hf
    refine va_sld hx hb hX hbl hbA hS hin d35 ?_
    refine lv_bipush (v := 31) hx hb d36 (by decide) ?_
    refine lv_iand hx hb d38 ?_
    by_cases q0 : ((xs (x4 : Int32).toNatClampNeg) &&& 31) = 0
    · have hf := x_pos q0 hf
      refine lv_tableIn (tgt := 164) hx hb d39 (by rw [q0]; decide) (by rw [q0]; decide) (by rw [q0]; first | done | rfl) (by decide) ?_
      have h0 : x_by cL_law 164 [43, 42, 21, 4, 4, 96, 46, 146, 45, 184, 0, 111, 54, 5, 44, 42, 21, 4, 4, 96, 46, 146, 182, 0, 116, 54, 6, 44, 182, 0, 117, 21, 5, 159, 0, 5] := by unfold x_by; decide +kernel
      obtain ⟨d164, h0⟩ := de_aload_n1 h0
      obtain ⟨d165, h0⟩ := de_aload_n0 h0
      obtain ⟨d166, h0⟩ := de_iload h0
      obtain ⟨d168, h0⟩ := de_iconst_1 h0
      obtain ⟨d169, h0⟩ := de_iadd h0
      obtain ⟨d170, h0⟩ := de_iaload h0
      obtain ⟨d171, h0⟩ := de_i2c h0
      obtain ⟨d172, h0⟩ := de_aload_n3 h0
      obtain ⟨d173, h0⟩ := de_invokestatic 111 (by decide) h0
      obtain ⟨d176, h0⟩ := de_istore h0
      obtain ⟨d178, h0⟩ := de_aload_n2 h0
      obtain ⟨d179, h0⟩ := de_aload_n0 h0
      obtain ⟨d180, h0⟩ := de_iload h0
      obtain ⟨d182, h0⟩ := de_iconst_1 h0
      obtain ⟨d183, h0⟩ := de_iadd h0
      obtain ⟨d184, h0⟩ := de_iaload h0
      obtain ⟨d185, h0⟩ := de_i2c h0
      obtain ⟨d186, h0⟩ := de_invokevirtual 116 (by decide) h0
      obtain ⟨d189, h0⟩ := de_istore h0
      obtain ⟨d191, h0⟩ := de_aload_n2 h0
      obtain ⟨d192, h0⟩ := de_invokevirtual 117 (by decide) h0
      obtain ⟨d195, h0⟩ := de_iload h0
      obtain ⟨d197, h0⟩ := de_icmp_eq (5) (by decide) h0
      refine lv_aload_n hx hb d164 rfl (lv_at hl 1 rfl) ?_
      refine lv_aload_n hx hb d165 rfl (lv_at hl 0 rfl) ?_
      refine lv_iload hx hb d166 (lv_at hl 4 rfl) ?_
      refine lv_iconst (v := 1) hx hb d168 (by decide) ?_
      refine lv_iadd hx hb d169 ?_
      obtain ⟨hin, hf⟩ := x_sl_el hf
      refine va_sld hx hb hX hbl hbA hS hin d170 ?_
      refine lv_i2c hx hb d171 rfl ?_
      refine lv_aload_n hx hb d172 rfl (lv_at hl 3 rfl) ?_
      refine x_thenLI hS hf (fun z0 e0 => x_runSX C0 hR hS me_L_feed wt_L_feed ml_L_111 (As := [.ref (xa E r1), .int (((xs ((x4 + 1) : Int32).toNatClampNeg).toUInt32 % 65536).toInt32), .ref (xa E r3)]) (ct_L_feed E l C0.2.2.2.2.2.2.2.1 _ r1 (((xs ((x4 + 1) : Int32).toNatClampNeg).toUInt32 % 65536).toInt32) r3) rfl rfl hl.1 (Nat.le_of_ble_eq_true rfl) d173 ⟨(Nat.le_of_ble_eq_true rfl), (Nat.le_of_ble_eq_true rfl)⟩ ⟨(by show _ ≤ 601024; omega), (by show _ ≤ 7293034; omega)⟩ e0) (fun h9 i1 H locs hR hS hf => ?_)
      refine lv_istore (lv' := [(5, .int i1), (0, .ref b), (1, .ref (xa E r1)), (2, .ref (xa E r2)), (3, .ref (xa E r3)), (4, .int x4)]) hx hb d176 hl (by decide) rfl (fun ls hl => ?_)
      refine lv_aload_n hx hb d178 rfl (lv_at hl 3 rfl) ?_
      refine lv_aload_n hx hb d179 rfl (lv_at hl 1 rfl) ?_
      refine lv_iload hx hb d180 (lv_at hl 5 rfl) ?_
      refine lv_iconst (v := 1) hx hb d182 (by decide) ?_
      refine lv_iadd hx hb d183 ?_
      obtain ⟨hin, hf⟩ := x_sl_el hf
      refine va_sld hx hb hX hbl hbA hS hin d184 ?_
      refine lv_i2c hx hb d185 rfl ?_
      obtain ⟨hs9, hf⟩ := x_if hf
      refine x_thenLI hS hf (fun z0 e0 => x_runV C0 hR hS me_X8_feed wi_X8_feed wl_X8_feed ml_L_116 hs9 xcl_8 (As := [.int (((xs ((x4 + 1) : Int32).toNatClampNeg).toUInt32 % 65536).toInt32)]) (ct_X8_feed E l C0.2.2.2.2.2.2.2.1 _ r2 (((xs ((x4 + 1) : Int32).toNatClampNeg).toUInt32 % 65536).toInt32)) rfl rfl hl.1 (Nat.le_of_ble_eq_true rfl) d186 ⟨(Nat.le_of_ble_eq_true rfl), (Nat.le_of_ble_eq_true rfl)⟩ ⟨(by show _ ≤ 601024; omega), (by show _ ≤ 7293034; omega)⟩ e0) (fun h9 i3 H locs hR hS hf => ?_)
      refine lv_istore (lv' := [(6, .int i3), (5, .int i1), (0, .ref b), (1, .ref (xa E r1)), (2, .ref (xa E r2)), (3, .ref (xa E r3)), (4, .int x4)]) hx hb d189 hl (by decide) rfl (fun ls hl => ?_)
      refine lv_aload_n hx hb d191 rfl (lv_at hl 4 rfl) ?_
      obtain ⟨hs9, hf⟩ := x_if hf
      refine x_thenLI hS hf (fun z0 e0 => x_runV C0 hR hS me_X8_thrown wi_X8_thrown wl_X8_thrown ml_L_117 hs9 xcl_8 (As := []) (ct_X8_thrown E l C0.2.2.2.2.2.2.2.1 _ r2) rfl rfl hl.1 (Nat.le_of_ble_eq_true rfl) d192 ⟨(Nat.le_of_ble_eq_true rfl), (Nat.le_of_ble_eq_true rfl)⟩ ⟨(by show _ ≤ 601024; omega), (by show _ ≤ 7293034; omega)⟩ e0) (fun h9 i5 H locs hR hS hf => ?_)
      refine lv_iload hx hb d195 (lv_at hl 1 rfl) ?_
      refine lv_icmp_eq (tgt := 202) hx hb d197 (by decide) (fun q => ?_) (fun q => ?_)
      · have hf := x_pos q hf
        have h0 : x_by cL_law 202 [21, 5, 154, 0, 15] := by unfold x_by; decide +kernel
        obtain ⟨d202, h0⟩ := de_iload h0
        obtain ⟨d204, h0⟩ := de_if_ne (15) (by decide) h0
        refine lv_iload hx hb d202 (lv_at hl 1 rfl) ?_
        refine lv_if_ne (tgt := 219) hx hb d204 (by decide) (fun q => ?_) (fun q => ?_)
        · have hf := x_neg q hf
          exact s_L_law_b219 hE C0 hX hbl hbA hk23 _ _ _ _ _ _ _ _ _ _ (by omega) (by omega) hR hS (lv_sub hl [2, 3, 4, 5, 6] rfl) hf
        · have hf := x_pos q hf
          have h0 : x_by cL_law 207 [45, 3, 47, 21, 6, 133, 148, 153, 0, 5] := by unfold x_by; decide +kernel
          obtain ⟨d207, h0⟩ := de_aload_n3 h0
          obtain ⟨d208, h0⟩ := de_iconst_0 h0
          obtain ⟨d209, h0⟩ := de_laload h0
          obtain ⟨d210, h0⟩ := de_iload h0
          obtain ⟨d212, h0⟩ := de_i2l h0
          obtain ⟨d213, h0⟩ := de_lcmp h0
          obtain ⟨d214, h0⟩ := de_if_eq (5) (by decide) h0
          refine lv_aload_n hx hb d207 rfl (lv_at hl 5 rfl) ?_
          refine lv_iconst (v := 0) hx hb d208 (by decide) ?_
          refine x_lald C0 hR hf d209 (fun j7 hf => ?_)
          refine lv_iload hx hb d210 (lv_at hl 0 rfl) ?_
          refine lv_i2l hx hb d212 rfl ?_
          refine W.lcmp hx hb d213 ?_
          refine lv_if_eq (tgt := 219) hx hb d214 (by decide) (fun q => ?_) (fun q => ?_)
          · have hf := x_pos q hf
            exact s_L_law_b219 hE C0 hX hbl hbA hk23 _ _ _ _ _ _ _ _ _ _ (by omega) (by omega) hR hS (lv_sub hl [2, 3, 4, 5, 6] rfl) hf
          · have hf := x_neg q hf
            have h0 : x_by cL_law 217 [3, 172] := by unfold x_by; decide +kernel
            obtain ⟨d217, h0⟩ := de_iconst_0 h0
            obtain ⟨d218, h0⟩ := de_ireturn h0
            refine lv_iconst (v := 0) hx hb d217 (by decide) ?_
            cases hf
      · have hf := x_neg q hf
        have h0 : x_by cL_law 200 [3, 172] := by unfold x_by; decide +kernel
        obtain ⟨d200, h0⟩ := de_iconst_0 h0
        obtain ⟨d201, h0⟩ := de_ireturn h0
        refine lv_iconst (v := 0) hx hb d200 (by decide) ?_
        cases hf
    · have hf := x_neg q0 hf
      by_cases q1 : ((xs (x4 : Int32).toNatClampNeg) &&& 31) = 1
      · have hf := x_pos q1 hf
        refine lv_tableIn (tgt := 222) hx hb d39 (by rw [q1]; decide) (by rw [q1]; decide) (by rw [q1]; first | done | rfl) (by decide) ?_
        have h0 : x_by cL_law 222 [43, 42, 21, 4, 4, 96, 46, 45, 184, 0, 120, 54, 5, 44, 42, 21, 4, 4, 96, 46, 182, 0, 123, 54, 6, 44, 182, 0, 117, 21, 5, 159, 0, 5] := by unfold x_by; decide +kernel
        obtain ⟨d222, h0⟩ := de_aload_n1 h0
        obtain ⟨d223, h0⟩ := de_aload_n0 h0
        obtain ⟨d224, h0⟩ := de_iload h0
        obtain ⟨d226, h0⟩ := de_iconst_1 h0
        obtain ⟨d227, h0⟩ := de_iadd h0
        obtain ⟨d228, h0⟩ := de_iaload h0
        obtain ⟨d229, h0⟩ := de_aload_n3 h0
        obtain ⟨d230, h0⟩ := de_invokestatic 120 (by decide) h0
        obtain ⟨d233, h0⟩ := de_istore h0
        obtain ⟨d235, h0⟩ := de_aload_n2 h0
        obtain ⟨d236, h0⟩ := de_aload_n0 h0
        obtain ⟨d237, h0⟩ := de_iload h0
        obtain ⟨d239, h0⟩ := de_iconst_1 h0
        obtain ⟨d240, h0⟩ := de_iadd h0
        obtain ⟨d241, h0⟩ := de_iaload h0
        obtain ⟨d242, h0⟩ := de_invokevirtual 123 (by decide) h0
        obtain ⟨d245, h0⟩ := de_istore h0
        obtain ⟨d247, h0⟩ := de_aload_n2 h0
        obtain ⟨d248, h0⟩ := de_invokevirtual 117 (by decide) h0
        obtain ⟨d251, h0⟩ := de_iload h0
        obtain ⟨d253, h0⟩ := de_icmp_eq (5) (by decide) h0
        refine lv_aload_n hx hb d222 rfl (lv_at hl 1 rfl) ?_
        refine lv_aload_n hx hb d223 rfl (lv_at hl 0 rfl) ?_
        refine lv_iload hx hb d224 (lv_at hl 4 rfl) ?_
        refine lv_iconst (v := 1) hx hb d226 (by decide) ?_
        refine lv_iadd hx hb d227 ?_
        obtain ⟨hin, hf⟩ := x_sl_el hf
        refine va_sld hx hb hX hbl hbA hS hin d228 ?_
        refine lv_aload_n hx hb d229 rfl (lv_at hl 3 rfl) ?_
        refine x_thenLI hS hf (fun z0 e0 => x_runSX C0 hR hS me_L_readTracks wt_L_readTracks ml_L_120 (As := [.ref (xa E r1), .int (xs ((x4 + 1) : Int32).toNatClampNeg), .ref (xa E r3)]) (ct_L_readTracks E l C0.2.2.2.2.2.2.2.1 _ r1 (xs ((x4 + 1) : Int32).toNatClampNeg) r3) rfl rfl hl.1 (Nat.le_of_ble_eq_true rfl) d230 ⟨(Nat.le_of_ble_eq_true rfl), (Nat.le_of_ble_eq_true rfl)⟩ ⟨(by show _ ≤ 601024; omega), (by show _ ≤ 7293034; omega)⟩ e0) (fun h9 i8 H locs hR hS hf => ?_)
        refine lv_istore (lv' := [(5, .int i8), (0, .ref b), (1, .ref (xa E r1)), (2, .ref (xa E r2)), (3, .ref (xa E r3)), (4, .int x4)]) hx hb d233 hl (by decide) rfl (fun ls hl => ?_)
        refine lv_aload_n hx hb d235 rfl (lv_at hl 3 rfl) ?_
        refine lv_aload_n hx hb d236 rfl (lv_at hl 1 rfl) ?_
        refine lv_iload hx hb d237 (lv_at hl 5 rfl) ?_
        refine lv_iconst (v := 1) hx hb d239 (by decide) ?_
        refine lv_iadd hx hb d240 ?_
        obtain ⟨hin, hf⟩ := x_sl_el hf
        refine va_sld hx hb hX hbl hbA hS hin d241 ?_
        obtain ⟨hs9, hf⟩ := x_if hf
        refine x_thenLI hS hf (fun z0 e0 => x_runV C0 hR hS me_X8_readTracks wi_X8_readTracks wl_X8_readTracks ml_L_123 hs9 xcl_8 (As := [.int (xs ((x4 + 1) : Int32).toNatClampNeg)]) (ct_X8_readTracks E l C0.2.2.2.2.2.2.2.1 _ r2 (xs ((x4 + 1) : Int32).toNatClampNeg)) rfl rfl hl.1 (Nat.le_of_ble_eq_true rfl) d242 ⟨(Nat.le_of_ble_eq_true rfl), (Nat.le_of_ble_eq_true rfl)⟩ ⟨(by show _ ≤ 601024; omega), (by show _ ≤ 7293034; omega)⟩ e0) (fun h9 i10 H locs hR hS hf => ?_)
        refine lv_istore (lv' := [(6, .int i10), (5, .int i8), (0, .ref b), (1, .ref (xa E r1)), (2, .ref (xa E r2)), (3, .ref (xa E r3)), (4, .int x4)]) hx hb d245 hl (by decide) rfl (fun ls hl => ?_)
        refine lv_aload_n hx hb d247 rfl (lv_at hl 4 rfl) ?_
        obtain ⟨hs9, hf⟩ := x_if hf
        refine x_thenLI hS hf (fun z0 e0 => x_runV C0 hR hS me_X8_thrown wi_X8_thrown wl_X8_thrown ml_L_117 hs9 xcl_8 (As := []) (ct_X8_thrown E l C0.2.2.2.2.2.2.2.1 _ r2) rfl rfl hl.1 (Nat.le_of_ble_eq_true rfl) d248 ⟨(Nat.le_of_ble_eq_true rfl), (Nat.le_of_ble_eq_true rfl)⟩ ⟨(by show _ ≤ 601024; omega), (by show _ ≤ 7293034; omega)⟩ e0) (fun h9 i12 H locs hR hS hf => ?_)
        refine lv_iload hx hb d251 (lv_at hl 1 rfl) ?_
        refine lv_icmp_eq (tgt := 258) hx hb d253 (by decide) (fun q => ?_) (fun q => ?_)
        · have hf := x_pos q hf
          have h0 : x_by cL_law 258 [21, 5, 154, 0, 15] := by unfold x_by; decide +kernel
          obtain ⟨d258, h0⟩ := de_iload h0
          obtain ⟨d260, h0⟩ := de_if_ne (15) (by decide) h0
          refine lv_iload hx hb d258 (lv_at hl 1 rfl) ?_
          refine lv_if_ne (tgt := 275) hx hb d260 (by decide) (fun q => ?_) (fun q => ?_)
          · have hf := x_neg q hf
            exact s_L_law_b275 hE C0 hX hbl hbA hk23 _ _ _ _ _ _ _ _ _ _ (by omega) (by omega) hR hS (lv_sub hl [2, 3, 4, 5, 6] rfl) hf
          · have hf := x_pos q hf
            have h0 : x_by cL_law 263 [45, 3, 47, 21, 6, 133, 148, 153, 0, 5] := by unfold x_by; decide +kernel
            obtain ⟨d263, h0⟩ := de_aload_n3 h0
            obtain ⟨d264, h0⟩ := de_iconst_0 h0
            obtain ⟨d265, h0⟩ := de_laload h0
            obtain ⟨d266, h0⟩ := de_iload h0
            obtain ⟨d268, h0⟩ := de_i2l h0
            obtain ⟨d269, h0⟩ := de_lcmp h0
            obtain ⟨d270, h0⟩ := de_if_eq (5) (by decide) h0
            refine lv_aload_n hx hb d263 rfl (lv_at hl 5 rfl) ?_
            refine lv_iconst (v := 0) hx hb d264 (by decide) ?_
            refine x_lald C0 hR hf d265 (fun j14 hf => ?_)
            refine lv_iload hx hb d266 (lv_at hl 0 rfl) ?_
            refine lv_i2l hx hb d268 rfl ?_
            refine W.lcmp hx hb d269 ?_
            refine lv_if_eq (tgt := 275) hx hb d270 (by decide) (fun q => ?_) (fun q => ?_)
            · have hf := x_pos q hf
              exact s_L_law_b275 hE C0 hX hbl hbA hk23 _ _ _ _ _ _ _ _ _ _ (by omega) (by omega) hR hS (lv_sub hl [2, 3, 4, 5, 6] rfl) hf
            · have hf := x_neg q hf
              have h0 : x_by cL_law 273 [3, 172] := by unfold x_by; decide +kernel
              obtain ⟨d273, h0⟩ := de_iconst_0 h0
              obtain ⟨d274, h0⟩ := de_ireturn h0
              refine lv_iconst (v := 0) hx hb d273 (by decide) ?_
              cases hf
        · have hf := x_neg q hf
          have h0 : x_by cL_law 256 [3, 172] := by unfold x_by; decide +kernel
          obtain ⟨d256, h0⟩ := de_iconst_0 h0
          obtain ⟨d257, h0⟩ := de_ireturn h0
          refine lv_iconst (v := 0) hx hb d256 (by decide) ?_
          cases hf
      · have hf := x_neg q1 hf
        by_cases q2 : ((xs (x4 : Int32).toNatClampNeg) &&& 31) = 2
        · have hf := x_pos q2 hf
          refine lv_tableIn (tgt := 278) hx hb d39 (by rw [q2]; decide) (by rw [q2]; decide) (by rw [q2]; first | done | rfl) (by decide) ?_
          have h0 : x_by cL_law 278 [43, 42, 21, 4, 4, 96, 46, 45, 184, 0, 124, 54, 5, 44, 42, 21, 4, 4, 96, 46, 182, 0, 126, 54, 6, 44, 182, 0, 117, 21, 5, 159, 0, 5] := by unfold x_by; decide +kernel
          obtain ⟨d278, h0⟩ := de_aload_n1 h0
          obtain ⟨d279, h0⟩ := de_aload_n0 h0
          obtain ⟨d280, h0⟩ := de_iload h0
          obtain ⟨d282, h0⟩ := de_iconst_1 h0
          obtain ⟨d283, h0⟩ := de_iadd h0
          obtain ⟨d284, h0⟩ := de_iaload h0
          obtain ⟨d285, h0⟩ := de_aload_n3 h0
          obtain ⟨d286, h0⟩ := de_invokestatic 124 (by decide) h0
          obtain ⟨d289, h0⟩ := de_istore h0
          obtain ⟨d291, h0⟩ := de_aload_n2 h0
          obtain ⟨d292, h0⟩ := de_aload_n0 h0
          obtain ⟨d293, h0⟩ := de_iload h0
          obtain ⟨d295, h0⟩ := de_iconst_1 h0
          obtain ⟨d296, h0⟩ := de_iadd h0
          obtain ⟨d297, h0⟩ := de_iaload h0
          obtain ⟨d298, h0⟩ := de_invokevirtual 126 (by decide) h0
          obtain ⟨d301, h0⟩ := de_istore h0
          obtain ⟨d303, h0⟩ := de_aload_n2 h0
          obtain ⟨d304, h0⟩ := de_invokevirtual 117 (by decide) h0
          obtain ⟨d307, h0⟩ := de_iload h0
          obtain ⟨d309, h0⟩ := de_icmp_eq (5) (by decide) h0
          refine lv_aload_n hx hb d278 rfl (lv_at hl 1 rfl) ?_
          refine lv_aload_n hx hb d279 rfl (lv_at hl 0 rfl) ?_
          refine lv_iload hx hb d280 (lv_at hl 4 rfl) ?_
          refine lv_iconst (v := 1) hx hb d282 (by decide) ?_
          refine lv_iadd hx hb d283 ?_
          obtain ⟨hin, hf⟩ := x_sl_el hf
          refine va_sld hx hb hX hbl hbA hS hin d284 ?_
          refine lv_aload_n hx hb d285 rfl (lv_at hl 3 rfl) ?_
          refine x_thenLI hS hf (fun z0 e0 => x_runSX C0 hR hS me_L_readImplicit wt_L_readImplicit ml_L_124 (As := [.ref (xa E r1), .int (xs ((x4 + 1) : Int32).toNatClampNeg), .ref (xa E r3)]) (ct_L_readImplicit E l C0.2.2.2.2.2.2.2.1 _ r1 (xs ((x4 + 1) : Int32).toNatClampNeg) r3) rfl rfl hl.1 (Nat.le_of_ble_eq_true rfl) d286 ⟨(Nat.le_of_ble_eq_true rfl), (Nat.le_of_ble_eq_true rfl)⟩ ⟨(by show _ ≤ 601024; omega), (by show _ ≤ 7293034; omega)⟩ e0) (fun h9 i15 H locs hR hS hf => ?_)
          refine lv_istore (lv' := [(5, .int i15), (0, .ref b), (1, .ref (xa E r1)), (2, .ref (xa E r2)), (3, .ref (xa E r3)), (4, .int x4)]) hx hb d289 hl (by decide) rfl (fun ls hl => ?_)
          refine lv_aload_n hx hb d291 rfl (lv_at hl 3 rfl) ?_
          refine lv_aload_n hx hb d292 rfl (lv_at hl 1 rfl) ?_
          refine lv_iload hx hb d293 (lv_at hl 5 rfl) ?_
          refine lv_iconst (v := 1) hx hb d295 (by decide) ?_
          refine lv_iadd hx hb d296 ?_
          obtain ⟨hin, hf⟩ := x_sl_el hf
          refine va_sld hx hb hX hbl hbA hS hin d297 ?_
          obtain ⟨hs9, hf⟩ := x_if hf
          refine x_thenLI hS hf (fun z0 e0 => x_runV C0 hR hS me_X8_readImplicit wi_X8_readImplicit wl_X8_readImplicit ml_L_126 hs9 xcl_8 (As := [.int (xs ((x4 + 1) : Int32).toNatClampNeg)]) (ct_X8_readImplicit E l C0.2.2.2.2.2.2.2.1 _ r2 (xs ((x4 + 1) : Int32).toNatClampNeg)) rfl rfl hl.1 (Nat.le_of_ble_eq_true rfl) d298 ⟨(Nat.le_of_ble_eq_true rfl), (Nat.le_of_ble_eq_true rfl)⟩ ⟨(by show _ ≤ 601024; omega), (by show _ ≤ 7293034; omega)⟩ e0) (fun h9 i17 H locs hR hS hf => ?_)
          refine lv_istore (lv' := [(6, .int i17), (5, .int i15), (0, .ref b), (1, .ref (xa E r1)), (2, .ref (xa E r2)), (3, .ref (xa E r3)), (4, .int x4)]) hx hb d301 hl (by decide) rfl (fun ls hl => ?_)
          refine lv_aload_n hx hb d303 rfl (lv_at hl 4 rfl) ?_
          obtain ⟨hs9, hf⟩ := x_if hf
          refine x_thenLI hS hf (fun z0 e0 => x_runV C0 hR hS me_X8_thrown wi_X8_thrown wl_X8_thrown ml_L_117 hs9 xcl_8 (As := []) (ct_X8_thrown E l C0.2.2.2.2.2.2.2.1 _ r2) rfl rfl hl.1 (Nat.le_of_ble_eq_true rfl) d304 ⟨(Nat.le_of_ble_eq_true rfl), (Nat.le_of_ble_eq_true rfl)⟩ ⟨(by show _ ≤ 601024; omega), (by show _ ≤ 7293034; omega)⟩ e0) (fun h9 i19 H locs hR hS hf => ?_)
          refine lv_iload hx hb d307 (lv_at hl 1 rfl) ?_
          refine lv_icmp_eq (tgt := 314) hx hb d309 (by decide) (fun q => ?_) (fun q => ?_)
          · have hf := x_pos q hf
            have h0 : x_by cL_law 314 [21, 5, 154, 0, 15] := by unfold x_by; decide +kernel
            obtain ⟨d314, h0⟩ := de_iload h0
            obtain ⟨d316, h0⟩ := de_if_ne (15) (by decide) h0
            refine lv_iload hx hb d314 (lv_at hl 1 rfl) ?_
            refine lv_if_ne (tgt := 331) hx hb d316 (by decide) (fun q => ?_) (fun q => ?_)
            · have hf := x_neg q hf
              exact s_L_law_b331 hE C0 hX hbl hbA hk23 _ _ _ _ _ _ _ _ _ _ (by omega) (by omega) hR hS (lv_sub hl [2, 3, 4, 5, 6] rfl) hf
            · have hf := x_pos q hf
              have h0 : x_by cL_law 319 [45, 3, 47, 21, 6, 133, 148, 153, 0, 5] := by unfold x_by; decide +kernel
              obtain ⟨d319, h0⟩ := de_aload_n3 h0
              obtain ⟨d320, h0⟩ := de_iconst_0 h0
              obtain ⟨d321, h0⟩ := de_laload h0
              obtain ⟨d322, h0⟩ := de_iload h0
              obtain ⟨d324, h0⟩ := de_i2l h0
              obtain ⟨d325, h0⟩ := de_lcmp h0
              obtain ⟨d326, h0⟩ := de_if_eq (5) (by decide) h0
              refine lv_aload_n hx hb d319 rfl (lv_at hl 5 rfl) ?_
              refine lv_iconst (v := 0) hx hb d320 (by decide) ?_
              refine x_lald C0 hR hf d321 (fun j21 hf => ?_)
              refine lv_iload hx hb d322 (lv_at hl 0 rfl) ?_
              refine lv_i2l hx hb d324 rfl ?_
              refine W.lcmp hx hb d325 ?_
              refine lv_if_eq (tgt := 331) hx hb d326 (by decide) (fun q => ?_) (fun q => ?_)
              · have hf := x_pos q hf
                exact s_L_law_b331 hE C0 hX hbl hbA hk23 _ _ _ _ _ _ _ _ _ _ (by omega) (by omega) hR hS (lv_sub hl [2, 3, 4, 5, 6] rfl) hf
              · have hf := x_neg q hf
                have h0 : x_by cL_law 329 [3, 172] := by unfold x_by; decide +kernel
                obtain ⟨d329, h0⟩ := de_iconst_0 h0
                obtain ⟨d330, h0⟩ := de_ireturn h0
                refine lv_iconst (v := 0) hx hb d329 (by decide) ?_
                cases hf
          · have hf := x_neg q hf
            have h0 : x_by cL_law 312 [3, 172] := by unfold x_by; decide +kernel
            obtain ⟨d312, h0⟩ := de_iconst_0 h0
            obtain ⟨d313, h0⟩ := de_ireturn h0
            refine lv_iconst (v := 0) hx hb d312 (by decide) ?_
            cases hf
        · have hf := x_neg q2 hf
          by_cases q3 : ((xs (x4 : Int32).toNatClampNeg) &&& 31) = 3
          · have hf := x_pos q3 hf
            refine lv_tableIn (tgt := 334) hx hb d39 (by rw [q3]; decide) (by rw [q3]; decide) (by rw [q3]; first | done | rfl) (by decide) ?_
            have h0 : x_by cL_law 334 [43, 42, 21, 4, 4, 96, 46, 42, 21, 4, 5, 96, 46, 42, 21, 4, 6, 96, 46, 45, 184, 0, 127, 54, 5, 44, 42, 21, 4, 4, 96, 46, 42, 21, 4, 5, 96, 46, 42, 21, 4, 6, 96, 46, 182, 0, 130, 54, 6, 44, 182, 0, 117, 21, 5, 159, 0, 5] := by unfold x_by; decide +kernel
            obtain ⟨d334, h0⟩ := de_aload_n1 h0
            obtain ⟨d335, h0⟩ := de_aload_n0 h0
            obtain ⟨d336, h0⟩ := de_iload h0
            obtain ⟨d338, h0⟩ := de_iconst_1 h0
            obtain ⟨d339, h0⟩ := de_iadd h0
            obtain ⟨d340, h0⟩ := de_iaload h0
            obtain ⟨d341, h0⟩ := de_aload_n0 h0
            obtain ⟨d342, h0⟩ := de_iload h0
            obtain ⟨d344, h0⟩ := de_iconst_2 h0
            obtain ⟨d345, h0⟩ := de_iadd h0
            obtain ⟨d346, h0⟩ := de_iaload h0
            obtain ⟨d347, h0⟩ := de_aload_n0 h0
            obtain ⟨d348, h0⟩ := de_iload h0
            obtain ⟨d350, h0⟩ := de_iconst_3 h0
            obtain ⟨d351, h0⟩ := de_iadd h0
            obtain ⟨d352, h0⟩ := de_iaload h0
            obtain ⟨d353, h0⟩ := de_aload_n3 h0
            obtain ⟨d354, h0⟩ := de_invokestatic 127 (by decide) h0
            obtain ⟨d357, h0⟩ := de_istore h0
            obtain ⟨d359, h0⟩ := de_aload_n2 h0
            obtain ⟨d360, h0⟩ := de_aload_n0 h0
            obtain ⟨d361, h0⟩ := de_iload h0
            obtain ⟨d363, h0⟩ := de_iconst_1 h0
            obtain ⟨d364, h0⟩ := de_iadd h0
            obtain ⟨d365, h0⟩ := de_iaload h0
            obtain ⟨d366, h0⟩ := de_aload_n0 h0
            obtain ⟨d367, h0⟩ := de_iload h0
            obtain ⟨d369, h0⟩ := de_iconst_2 h0
            obtain ⟨d370, h0⟩ := de_iadd h0
            obtain ⟨d371, h0⟩ := de_iaload h0
            obtain ⟨d372, h0⟩ := de_aload_n0 h0
            obtain ⟨d373, h0⟩ := de_iload h0
            obtain ⟨d375, h0⟩ := de_iconst_3 h0
            obtain ⟨d376, h0⟩ := de_iadd h0
            obtain ⟨d377, h0⟩ := de_iaload h0
            obtain ⟨d378, h0⟩ := de_invokevirtual 130 (by decide) h0
            obtain ⟨d381, h0⟩ := de_istore h0
            obtain ⟨d383, h0⟩ := de_aload_n2 h0
            obtain ⟨d384, h0⟩ := de_invokevirtual 117 (by decide) h0
            obtain ⟨d387, h0⟩ := de_iload h0
            obtain ⟨d389, h0⟩ := de_icmp_eq (5) (by decide) h0
            refine lv_aload_n hx hb d334 rfl (lv_at hl 1 rfl) ?_
            refine lv_aload_n hx hb d335 rfl (lv_at hl 0 rfl) ?_
            refine lv_iload hx hb d336 (lv_at hl 4 rfl) ?_
            refine lv_iconst (v := 1) hx hb d338 (by decide) ?_
            refine lv_iadd hx hb d339 ?_
            obtain ⟨hin, hf⟩ := x_sl_el hf
            refine va_sld hx hb hX hbl hbA hS hin d340 ?_
            refine lv_aload_n hx hb d341 rfl (lv_at hl 0 rfl) ?_
            refine lv_iload hx hb d342 (lv_at hl 4 rfl) ?_
            refine lv_iconst (v := 2) hx hb d344 (by decide) ?_
            refine lv_iadd hx hb d345 ?_
            obtain ⟨hin, hf⟩ := x_sl_el hf
            refine va_sld hx hb hX hbl hbA hS hin d346 ?_
            refine lv_aload_n hx hb d347 rfl (lv_at hl 0 rfl) ?_
            refine lv_iload hx hb d348 (lv_at hl 4 rfl) ?_
            refine lv_iconst (v := 3) hx hb d350 (by decide) ?_
            refine lv_iadd hx hb d351 ?_
            obtain ⟨hin, hf⟩ := x_sl_el hf
            refine va_sld hx hb hX hbl hbA hS hin d352 ?_
            refine lv_aload_n hx hb d353 rfl (lv_at hl 3 rfl) ?_
            refine x_thenLI hS hf (fun z0 e0 => x_runSX C0 hR hS me_L_definition wt_L_definition ml_L_127 (As := [.ref (xa E r1), .int (xs ((x4 + 1) : Int32).toNatClampNeg), .int (xs ((x4 + 2) : Int32).toNatClampNeg), .int (xs ((x4 + 3) : Int32).toNatClampNeg), .ref (xa E r3)]) (ct_L_definition E l C0.2.2.2.2.2.2.2.1 _ r1 (xs ((x4 + 1) : Int32).toNatClampNeg) (xs ((x4 + 2) : Int32).toNatClampNeg) (xs ((x4 + 3) : Int32).toNatClampNeg) r3) rfl rfl hl.1 (Nat.le_of_ble_eq_true rfl) d354 ⟨(Nat.le_of_ble_eq_true rfl), (Nat.le_of_ble_eq_true rfl)⟩ ⟨(by show _ ≤ 601024; omega), (by show _ ≤ 7293034; omega)⟩ e0) (fun h9 i22 H locs hR hS hf => ?_)
            refine lv_istore (lv' := [(5, .int i22), (0, .ref b), (1, .ref (xa E r1)), (2, .ref (xa E r2)), (3, .ref (xa E r3)), (4, .int x4)]) hx hb d357 hl (by decide) rfl (fun ls hl => ?_)
            refine lv_aload_n hx hb d359 rfl (lv_at hl 3 rfl) ?_
            refine lv_aload_n hx hb d360 rfl (lv_at hl 1 rfl) ?_
            refine lv_iload hx hb d361 (lv_at hl 5 rfl) ?_
            refine lv_iconst (v := 1) hx hb d363 (by decide) ?_
            refine lv_iadd hx hb d364 ?_
            obtain ⟨hin, hf⟩ := x_sl_el hf
            refine va_sld hx hb hX hbl hbA hS hin d365 ?_
            refine lv_aload_n hx hb d366 rfl (lv_at hl 1 rfl) ?_
            refine lv_iload hx hb d367 (lv_at hl 5 rfl) ?_
            refine lv_iconst (v := 2) hx hb d369 (by decide) ?_
            refine lv_iadd hx hb d370 ?_
            obtain ⟨hin, hf⟩ := x_sl_el hf
            refine va_sld hx hb hX hbl hbA hS hin d371 ?_
            refine lv_aload_n hx hb d372 rfl (lv_at hl 1 rfl) ?_
            refine lv_iload hx hb d373 (lv_at hl 5 rfl) ?_
            refine lv_iconst (v := 3) hx hb d375 (by decide) ?_
            refine lv_iadd hx hb d376 ?_
            obtain ⟨hin, hf⟩ := x_sl_el hf
            refine va_sld hx hb hX hbl hbA hS hin d377 ?_
            obtain ⟨hs9, hf⟩ := x_if hf
            refine x_thenLI hS hf (fun z0 e0 => x_runV C0 hR hS me_X8_definition wi_X8_definition wl_X8_definition ml_L_130 hs9 xcl_8 (As := [.int (xs ((x4 + 1) : Int32).toNatClampNeg), .int (xs ((x4 + 2) : Int32).toNatClampNeg), .int (xs ((x4 + 3) : Int32).toNatClampNeg)]) (ct_X8_definition E l C0.2.2.2.2.2.2.2.1 _ r2 (xs ((x4 + 1) : Int32).toNatClampNeg) (xs ((x4 + 2) : Int32).toNatClampNeg) (xs ((x4 + 3) : Int32).toNatClampNeg)) rfl rfl hl.1 (Nat.le_of_ble_eq_true rfl) d378 ⟨(Nat.le_of_ble_eq_true rfl), (Nat.le_of_ble_eq_true rfl)⟩ ⟨(by show _ ≤ 601024; omega), (by show _ ≤ 7293034; omega)⟩ e0) (fun h9 i24 H locs hR hS hf => ?_)
            refine lv_istore (lv' := [(6, .int i24), (5, .int i22), (0, .ref b), (1, .ref (xa E r1)), (2, .ref (xa E r2)), (3, .ref (xa E r3)), (4, .int x4)]) hx hb d381 hl (by decide) rfl (fun ls hl => ?_)
            refine lv_aload_n hx hb d383 rfl (lv_at hl 4 rfl) ?_
            obtain ⟨hs9, hf⟩ := x_if hf
            refine x_thenLI hS hf (fun z0 e0 => x_runV C0 hR hS me_X8_thrown wi_X8_thrown wl_X8_thrown ml_L_117 hs9 xcl_8 (As := []) (ct_X8_thrown E l C0.2.2.2.2.2.2.2.1 _ r2) rfl rfl hl.1 (Nat.le_of_ble_eq_true rfl) d384 ⟨(Nat.le_of_ble_eq_true rfl), (Nat.le_of_ble_eq_true rfl)⟩ ⟨(by show _ ≤ 601024; omega), (by show _ ≤ 7293034; omega)⟩ e0) (fun h9 i26 H locs hR hS hf => ?_)
            refine lv_iload hx hb d387 (lv_at hl 1 rfl) ?_
            refine lv_icmp_eq (tgt := 394) hx hb d389 (by decide) (fun q => ?_) (fun q => ?_)
            · have hf := x_pos q hf
              have h0 : x_by cL_law 394 [21, 5, 154, 0, 15] := by unfold x_by; decide +kernel
              obtain ⟨d394, h0⟩ := de_iload h0
              obtain ⟨d396, h0⟩ := de_if_ne (15) (by decide) h0
              refine lv_iload hx hb d394 (lv_at hl 1 rfl) ?_
              refine lv_if_ne (tgt := 411) hx hb d396 (by decide) (fun q => ?_) (fun q => ?_)
              · have hf := x_neg q hf
                exact s_L_law_b411 hE C0 hX hbl hbA hk23 _ _ _ _ _ _ _ _ _ _ (by omega) (by omega) hR hS (lv_sub hl [2, 3, 4, 5, 6] rfl) hf
              · have hf := x_pos q hf
                have h0 : x_by cL_law 399 [45, 3, 47, 21, 6, 133, 148, 153, 0, 5] := by unfold x_by; decide +kernel
                obtain ⟨d399, h0⟩ := de_aload_n3 h0
                obtain ⟨d400, h0⟩ := de_iconst_0 h0
                obtain ⟨d401, h0⟩ := de_laload h0
                obtain ⟨d402, h0⟩ := de_iload h0
                obtain ⟨d404, h0⟩ := de_i2l h0
                obtain ⟨d405, h0⟩ := de_lcmp h0
                obtain ⟨d406, h0⟩ := de_if_eq (5) (by decide) h0
                refine lv_aload_n hx hb d399 rfl (lv_at hl 5 rfl) ?_
                refine lv_iconst (v := 0) hx hb d400 (by decide) ?_
                refine x_lald C0 hR hf d401 (fun j28 hf => ?_)
                refine lv_iload hx hb d402 (lv_at hl 0 rfl) ?_
                refine lv_i2l hx hb d404 rfl ?_
                refine W.lcmp hx hb d405 ?_
                refine lv_if_eq (tgt := 411) hx hb d406 (by decide) (fun q => ?_) (fun q => ?_)
                · have hf := x_pos q hf
                  exact s_L_law_b411 hE C0 hX hbl hbA hk23 _ _ _ _ _ _ _ _ _ _ (by omega) (by omega) hR hS (lv_sub hl [2, 3, 4, 5, 6] rfl) hf
                · have hf := x_neg q hf
                  have h0 : x_by cL_law 409 [3, 172] := by unfold x_by; decide +kernel
                  obtain ⟨d409, h0⟩ := de_iconst_0 h0
                  obtain ⟨d410, h0⟩ := de_ireturn h0
                  refine lv_iconst (v := 0) hx hb d409 (by decide) ?_
                  cases hf
            · have hf := x_neg q hf
              have h0 : x_by cL_law 392 [3, 172] := by unfold x_by; decide +kernel
              obtain ⟨d392, h0⟩ := de_iconst_0 h0
              obtain ⟨d393, h0⟩ := de_ireturn h0
              refine lv_iconst (v := 0) hx hb d392 (by decide) ?_
              cases hf
          · have hf := x_neg q3 hf
            by_cases q4 : ((xs (x4 : Int32).toNatClampNeg) &&& 31) = 4
            · have hf := x_pos q4 hf
              refine lv_tableIn (tgt := 414) hx hb d39 (by rw [q4]; decide) (by rw [q4]; decide) (by rw [q4]; first | done | rfl) (by decide) ?_
              have h0 : x_by cL_law 414 [43, 42, 21, 4, 4, 96, 46, 42, 21, 4, 5, 96, 46, 42, 21, 4, 6, 96, 46, 45, 184, 0, 131, 54, 5, 44, 42, 21, 4, 4, 96, 46, 42, 21, 4, 5, 96, 46, 42, 21, 4, 6, 96, 46, 182, 0, 133, 54, 6, 44, 182, 0, 117, 21, 5, 159, 0, 5] := by unfold x_by; decide +kernel
              obtain ⟨d414, h0⟩ := de_aload_n1 h0
              obtain ⟨d415, h0⟩ := de_aload_n0 h0
              obtain ⟨d416, h0⟩ := de_iload h0
              obtain ⟨d418, h0⟩ := de_iconst_1 h0
              obtain ⟨d419, h0⟩ := de_iadd h0
              obtain ⟨d420, h0⟩ := de_iaload h0
              obtain ⟨d421, h0⟩ := de_aload_n0 h0
              obtain ⟨d422, h0⟩ := de_iload h0
              obtain ⟨d424, h0⟩ := de_iconst_2 h0
              obtain ⟨d425, h0⟩ := de_iadd h0
              obtain ⟨d426, h0⟩ := de_iaload h0
              obtain ⟨d427, h0⟩ := de_aload_n0 h0
              obtain ⟨d428, h0⟩ := de_iload h0
              obtain ⟨d430, h0⟩ := de_iconst_3 h0
              obtain ⟨d431, h0⟩ := de_iadd h0
              obtain ⟨d432, h0⟩ := de_iaload h0
              obtain ⟨d433, h0⟩ := de_aload_n3 h0
              obtain ⟨d434, h0⟩ := de_invokestatic 131 (by decide) h0
              obtain ⟨d437, h0⟩ := de_istore h0
              obtain ⟨d439, h0⟩ := de_aload_n2 h0
              obtain ⟨d440, h0⟩ := de_aload_n0 h0
              obtain ⟨d441, h0⟩ := de_iload h0
              obtain ⟨d443, h0⟩ := de_iconst_1 h0
              obtain ⟨d444, h0⟩ := de_iadd h0
              obtain ⟨d445, h0⟩ := de_iaload h0
              obtain ⟨d446, h0⟩ := de_aload_n0 h0
              obtain ⟨d447, h0⟩ := de_iload h0
              obtain ⟨d449, h0⟩ := de_iconst_2 h0
              obtain ⟨d450, h0⟩ := de_iadd h0
              obtain ⟨d451, h0⟩ := de_iaload h0
              obtain ⟨d452, h0⟩ := de_aload_n0 h0
              obtain ⟨d453, h0⟩ := de_iload h0
              obtain ⟨d455, h0⟩ := de_iconst_3 h0
              obtain ⟨d456, h0⟩ := de_iadd h0
              obtain ⟨d457, h0⟩ := de_iaload h0
              obtain ⟨d458, h0⟩ := de_invokevirtual 133 (by decide) h0
              obtain ⟨d461, h0⟩ := de_istore h0
              obtain ⟨d463, h0⟩ := de_aload_n2 h0
              obtain ⟨d464, h0⟩ := de_invokevirtual 117 (by decide) h0
              obtain ⟨d467, h0⟩ := de_iload h0
              obtain ⟨d469, h0⟩ := de_icmp_eq (5) (by decide) h0
              refine lv_aload_n hx hb d414 rfl (lv_at hl 1 rfl) ?_
              refine lv_aload_n hx hb d415 rfl (lv_at hl 0 rfl) ?_
              refine lv_iload hx hb d416 (lv_at hl 4 rfl) ?_
              refine lv_iconst (v := 1) hx hb d418 (by decide) ?_
              refine lv_iadd hx hb d419 ?_
              obtain ⟨hin, hf⟩ := x_sl_el hf
              refine va_sld hx hb hX hbl hbA hS hin d420 ?_
              refine lv_aload_n hx hb d421 rfl (lv_at hl 0 rfl) ?_
              refine lv_iload hx hb d422 (lv_at hl 4 rfl) ?_
              refine lv_iconst (v := 2) hx hb d424 (by decide) ?_
              refine lv_iadd hx hb d425 ?_
              obtain ⟨hin, hf⟩ := x_sl_el hf
              refine va_sld hx hb hX hbl hbA hS hin d426 ?_
              refine lv_aload_n hx hb d427 rfl (lv_at hl 0 rfl) ?_
              refine lv_iload hx hb d428 (lv_at hl 4 rfl) ?_
              refine lv_iconst (v := 3) hx hb d430 (by decide) ?_
              refine lv_iadd hx hb d431 ?_
              obtain ⟨hin, hf⟩ := x_sl_el hf
              refine va_sld hx hb hX hbl hbA hS hin d432 ?_
              refine lv_aload_n hx hb d433 rfl (lv_at hl 3 rfl) ?_
              refine x_thenLI hS hf (fun z0 e0 => x_runSX C0 hR hS me_L_set wt_L_set ml_L_131 (As := [.ref (xa E r1), .int (xs ((x4 + 1) : Int32).toNatClampNeg), .int (xs ((x4 + 2) : Int32).toNatClampNeg), .int (xs ((x4 + 3) : Int32).toNatClampNeg), .ref (xa E r3)]) (ct_L_set E l C0.2.2.2.2.2.2.2.1 _ r1 (xs ((x4 + 1) : Int32).toNatClampNeg) (xs ((x4 + 2) : Int32).toNatClampNeg) (xs ((x4 + 3) : Int32).toNatClampNeg) r3) rfl rfl hl.1 (Nat.le_of_ble_eq_true rfl) d434 ⟨(Nat.le_of_ble_eq_true rfl), (Nat.le_of_ble_eq_true rfl)⟩ ⟨(by show _ ≤ 601024; omega), (by show _ ≤ 7293034; omega)⟩ e0) (fun h9 i29 H locs hR hS hf => ?_)
              refine lv_istore (lv' := [(5, .int i29), (0, .ref b), (1, .ref (xa E r1)), (2, .ref (xa E r2)), (3, .ref (xa E r3)), (4, .int x4)]) hx hb d437 hl (by decide) rfl (fun ls hl => ?_)
              refine lv_aload_n hx hb d439 rfl (lv_at hl 3 rfl) ?_
              refine lv_aload_n hx hb d440 rfl (lv_at hl 1 rfl) ?_
              refine lv_iload hx hb d441 (lv_at hl 5 rfl) ?_
              refine lv_iconst (v := 1) hx hb d443 (by decide) ?_
              refine lv_iadd hx hb d444 ?_
              obtain ⟨hin, hf⟩ := x_sl_el hf
              refine va_sld hx hb hX hbl hbA hS hin d445 ?_
              refine lv_aload_n hx hb d446 rfl (lv_at hl 1 rfl) ?_
              refine lv_iload hx hb d447 (lv_at hl 5 rfl) ?_
              refine lv_iconst (v := 2) hx hb d449 (by decide) ?_
              refine lv_iadd hx hb d450 ?_
              obtain ⟨hin, hf⟩ := x_sl_el hf
              refine va_sld hx hb hX hbl hbA hS hin d451 ?_
              refine lv_aload_n hx hb d452 rfl (lv_at hl 1 rfl) ?_
              refine lv_iload hx hb d453 (lv_at hl 5 rfl) ?_
              refine lv_iconst (v := 3) hx hb d455 (by decide) ?_
              refine lv_iadd hx hb d456 ?_
              obtain ⟨hin, hf⟩ := x_sl_el hf
              refine va_sld hx hb hX hbl hbA hS hin d457 ?_
              obtain ⟨hs9, hf⟩ := x_if hf
              refine x_thenLI hS hf (fun z0 e0 => x_runV C0 hR hS me_X8_set wi_X8_set wl_X8_set ml_L_133 hs9 xcl_8 (As := [.int (xs ((x4 + 1) : Int32).toNatClampNeg), .int (xs ((x4 + 2) : Int32).toNatClampNeg), .int (xs ((x4 + 3) : Int32).toNatClampNeg)]) (ct_X8_set E l C0.2.2.2.2.2.2.2.1 _ r2 (xs ((x4 + 1) : Int32).toNatClampNeg) (xs ((x4 + 2) : Int32).toNatClampNeg) (xs ((x4 + 3) : Int32).toNatClampNeg)) rfl rfl hl.1 (Nat.le_of_ble_eq_true rfl) d458 ⟨(Nat.le_of_ble_eq_true rfl), (Nat.le_of_ble_eq_true rfl)⟩ ⟨(by show _ ≤ 601024; omega), (by show _ ≤ 7293034; omega)⟩ e0) (fun h9 i31 H locs hR hS hf => ?_)
              refine lv_istore (lv' := [(6, .int i31), (5, .int i29), (0, .ref b), (1, .ref (xa E r1)), (2, .ref (xa E r2)), (3, .ref (xa E r3)), (4, .int x4)]) hx hb d461 hl (by decide) rfl (fun ls hl => ?_)
              refine lv_aload_n hx hb d463 rfl (lv_at hl 4 rfl) ?_
              obtain ⟨hs9, hf⟩ := x_if hf
              refine x_thenLI hS hf (fun z0 e0 => x_runV C0 hR hS me_X8_thrown wi_X8_thrown wl_X8_thrown ml_L_117 hs9 xcl_8 (As := []) (ct_X8_thrown E l C0.2.2.2.2.2.2.2.1 _ r2) rfl rfl hl.1 (Nat.le_of_ble_eq_true rfl) d464 ⟨(Nat.le_of_ble_eq_true rfl), (Nat.le_of_ble_eq_true rfl)⟩ ⟨(by show _ ≤ 601024; omega), (by show _ ≤ 7293034; omega)⟩ e0) (fun h9 i33 H locs hR hS hf => ?_)
              refine lv_iload hx hb d467 (lv_at hl 1 rfl) ?_
              refine lv_icmp_eq (tgt := 474) hx hb d469 (by decide) (fun q => ?_) (fun q => ?_)
              · have hf := x_pos q hf
                have h0 : x_by cL_law 474 [21, 5, 154, 0, 15] := by unfold x_by; decide +kernel
                obtain ⟨d474, h0⟩ := de_iload h0
                obtain ⟨d476, h0⟩ := de_if_ne (15) (by decide) h0
                refine lv_iload hx hb d474 (lv_at hl 1 rfl) ?_
                refine lv_if_ne (tgt := 491) hx hb d476 (by decide) (fun q => ?_) (fun q => ?_)
                · have hf := x_neg q hf
                  exact s_L_law_b491 hE C0 hX hbl hbA hk23 _ _ _ _ _ _ _ _ _ _ (by omega) (by omega) hR hS (lv_sub hl [2, 3, 4, 5, 6] rfl) hf
                · have hf := x_pos q hf
                  have h0 : x_by cL_law 479 [45, 3, 47, 21, 6, 133, 148, 153, 0, 5] := by unfold x_by; decide +kernel
                  obtain ⟨d479, h0⟩ := de_aload_n3 h0
                  obtain ⟨d480, h0⟩ := de_iconst_0 h0
                  obtain ⟨d481, h0⟩ := de_laload h0
                  obtain ⟨d482, h0⟩ := de_iload h0
                  obtain ⟨d484, h0⟩ := de_i2l h0
                  obtain ⟨d485, h0⟩ := de_lcmp h0
                  obtain ⟨d486, h0⟩ := de_if_eq (5) (by decide) h0
                  refine lv_aload_n hx hb d479 rfl (lv_at hl 5 rfl) ?_
                  refine lv_iconst (v := 0) hx hb d480 (by decide) ?_
                  refine x_lald C0 hR hf d481 (fun j35 hf => ?_)
                  refine lv_iload hx hb d482 (lv_at hl 0 rfl) ?_
                  refine lv_i2l hx hb d484 rfl ?_
                  refine W.lcmp hx hb d485 ?_
                  refine lv_if_eq (tgt := 491) hx hb d486 (by decide) (fun q => ?_) (fun q => ?_)
                  · have hf := x_pos q hf
                    exact s_L_law_b491 hE C0 hX hbl hbA hk23 _ _ _ _ _ _ _ _ _ _ (by omega) (by omega) hR hS (lv_sub hl [2, 3, 4, 5, 6] rfl) hf
                  · have hf := x_neg q hf
                    have h0 : x_by cL_law 489 [3, 172] := by unfold x_by; decide +kernel
                    obtain ⟨d489, h0⟩ := de_iconst_0 h0
                    obtain ⟨d490, h0⟩ := de_ireturn h0
                    refine lv_iconst (v := 0) hx hb d489 (by decide) ?_
                    cases hf
              · have hf := x_neg q hf
                have h0 : x_by cL_law 472 [3, 172] := by unfold x_by; decide +kernel
                obtain ⟨d472, h0⟩ := de_iconst_0 h0
                obtain ⟨d473, h0⟩ := de_ireturn h0
                refine lv_iconst (v := 0) hx hb d472 (by decide) ?_
                cases hf
            · have hf := x_neg q4 hf
              by_cases q5 : ((xs (x4 : Int32).toNatClampNeg) &&& 31) = 5
              · have hf := x_pos q5 hf
                refine lv_tableIn (tgt := 494) hx hb d39 (by rw [q5]; decide) (by rw [q5]; decide) (by rw [q5]; first | done | rfl) (by decide) ?_
                have h0 : x_by cL_law 494 [43, 42, 21, 4, 4, 96, 46, 42, 21, 4, 5, 96, 46, 153, 0, 7] := by unfold x_by; decide +kernel
                obtain ⟨d494, h0⟩ := de_aload_n1 h0
                obtain ⟨d495, h0⟩ := de_aload_n0 h0
                obtain ⟨d496, h0⟩ := de_iload h0
                obtain ⟨d498, h0⟩ := de_iconst_1 h0
                obtain ⟨d499, h0⟩ := de_iadd h0
                obtain ⟨d500, h0⟩ := de_iaload h0
                obtain ⟨d501, h0⟩ := de_aload_n0 h0
                obtain ⟨d502, h0⟩ := de_iload h0
                obtain ⟨d504, h0⟩ := de_iconst_2 h0
                obtain ⟨d505, h0⟩ := de_iadd h0
                obtain ⟨d506, h0⟩ := de_iaload h0
                obtain ⟨d507, h0⟩ := de_if_eq (7) (by decide) h0
                refine lv_aload_n hx hb d494 rfl (lv_at hl 1 rfl) ?_
                refine lv_aload_n hx hb d495 rfl (lv_at hl 0 rfl) ?_
                refine lv_iload hx hb d496 (lv_at hl 4 rfl) ?_
                refine lv_iconst (v := 1) hx hb d498 (by decide) ?_
                refine lv_iadd hx hb d499 ?_
                obtain ⟨hin, hf⟩ := x_sl_el hf
                refine va_sld hx hb hX hbl hbA hS hin d500 ?_
                refine lv_aload_n hx hb d501 rfl (lv_at hl 0 rfl) ?_
                refine lv_iload hx hb d502 (lv_at hl 4 rfl) ?_
                refine lv_iconst (v := 2) hx hb d504 (by decide) ?_
                refine lv_iadd hx hb d505 ?_
                obtain ⟨hin, hf⟩ := x_sl_el hf
                refine va_sld hx hb hX hbl hbA hS hin d506 ?_
                refine lv_if_eq (tgt := 514) hx hb d507 (by decide) (fun q => ?_) (fun q => ?_)
                · have hf := x_pos q hf
                  have h0 : x_by cL_law 514 [3] := by unfold x_by; decide +kernel
                  obtain ⟨d514, h0⟩ := de_iconst_0 h0
                  refine lv_iconst (v := 0) hx hb d514 (by decide) ?_
                  exact s_L_law_b515 hE C0 hX hbl hbA hk23 _ _ _ _ _ _ _ _ _ _ _ _ _ (by omega) (by omega) hR hS (lv_sub hl [0, 1, 2, 3, 4] rfl) hf
                · have hf := x_neg q hf
                  have h0 : x_by cL_law 510 [4, 167, 0, 4] := by unfold x_by; decide +kernel
                  obtain ⟨d510, h0⟩ := de_iconst_1 h0
                  obtain ⟨d511, h0⟩ := de_goto (4) (by decide) h0
                  refine lv_iconst (v := 1) hx hb d510 (by decide) ?_
                  refine lv_goto (tgt := 515) hx hb d511 (by decide) ?_
                  exact s_L_law_b515 hE C0 hX hbl hbA hk23 _ _ _ _ _ _ _ _ _ _ _ _ _ (by omega) (by omega) hR hS (lv_sub hl [0, 1, 2, 3, 4] rfl) hf
              · have hf := x_neg q5 hf
                by_cases q6 : ((xs (x4 : Int32).toNatClampNeg) &&& 31) = 6
                · have hf := x_pos q6 hf
                  refine lv_tableIn (tgt := 578) hx hb d39 (by rw [q6]; decide) (by rw [q6]; decide) (by rw [q6]; first | done | rfl) (by decide) ?_
                  have h0 : x_by cL_law 578 [43, 42, 21, 4, 4, 96, 46, 42, 21, 4, 5, 96, 46, 42, 21, 4, 6, 96, 46, 42, 21, 4, 7, 96, 46, 45, 184, 0, 138, 54, 5, 44, 42, 21, 4, 4, 96, 46, 42, 21, 4, 5, 96, 46, 42, 21, 4, 6, 96, 46, 42, 21, 4, 7, 96, 46, 182, 0, 141, 54, 6, 44, 182, 0, 117, 21, 5, 159, 0, 5] := by unfold x_by; decide +kernel
                  obtain ⟨d578, h0⟩ := de_aload_n1 h0
                  obtain ⟨d579, h0⟩ := de_aload_n0 h0
                  obtain ⟨d580, h0⟩ := de_iload h0
                  obtain ⟨d582, h0⟩ := de_iconst_1 h0
                  obtain ⟨d583, h0⟩ := de_iadd h0
                  obtain ⟨d584, h0⟩ := de_iaload h0
                  obtain ⟨d585, h0⟩ := de_aload_n0 h0
                  obtain ⟨d586, h0⟩ := de_iload h0
                  obtain ⟨d588, h0⟩ := de_iconst_2 h0
                  obtain ⟨d589, h0⟩ := de_iadd h0
                  obtain ⟨d590, h0⟩ := de_iaload h0
                  obtain ⟨d591, h0⟩ := de_aload_n0 h0
                  obtain ⟨d592, h0⟩ := de_iload h0
                  obtain ⟨d594, h0⟩ := de_iconst_3 h0
                  obtain ⟨d595, h0⟩ := de_iadd h0
                  obtain ⟨d596, h0⟩ := de_iaload h0
                  obtain ⟨d597, h0⟩ := de_aload_n0 h0
                  obtain ⟨d598, h0⟩ := de_iload h0
                  obtain ⟨d600, h0⟩ := de_iconst_4 h0
                  obtain ⟨d601, h0⟩ := de_iadd h0
                  obtain ⟨d602, h0⟩ := de_iaload h0
                  obtain ⟨d603, h0⟩ := de_aload_n3 h0
                  obtain ⟨d604, h0⟩ := de_invokestatic 138 (by decide) h0
                  obtain ⟨d607, h0⟩ := de_istore h0
                  obtain ⟨d609, h0⟩ := de_aload_n2 h0
                  obtain ⟨d610, h0⟩ := de_aload_n0 h0
                  obtain ⟨d611, h0⟩ := de_iload h0
                  obtain ⟨d613, h0⟩ := de_iconst_1 h0
                  obtain ⟨d614, h0⟩ := de_iadd h0
                  obtain ⟨d615, h0⟩ := de_iaload h0
                  obtain ⟨d616, h0⟩ := de_aload_n0 h0
                  obtain ⟨d617, h0⟩ := de_iload h0
                  obtain ⟨d619, h0⟩ := de_iconst_2 h0
                  obtain ⟨d620, h0⟩ := de_iadd h0
                  obtain ⟨d621, h0⟩ := de_iaload h0
                  obtain ⟨d622, h0⟩ := de_aload_n0 h0
                  obtain ⟨d623, h0⟩ := de_iload h0
                  obtain ⟨d625, h0⟩ := de_iconst_3 h0
                  obtain ⟨d626, h0⟩ := de_iadd h0
                  obtain ⟨d627, h0⟩ := de_iaload h0
                  obtain ⟨d628, h0⟩ := de_aload_n0 h0
                  obtain ⟨d629, h0⟩ := de_iload h0
                  obtain ⟨d631, h0⟩ := de_iconst_4 h0
                  obtain ⟨d632, h0⟩ := de_iadd h0
                  obtain ⟨d633, h0⟩ := de_iaload h0
                  obtain ⟨d634, h0⟩ := de_invokevirtual 141 (by decide) h0
                  obtain ⟨d637, h0⟩ := de_istore h0
                  obtain ⟨d639, h0⟩ := de_aload_n2 h0
                  obtain ⟨d640, h0⟩ := de_invokevirtual 117 (by decide) h0
                  obtain ⟨d643, h0⟩ := de_iload h0
                  obtain ⟨d645, h0⟩ := de_icmp_eq (5) (by decide) h0
                  refine lv_aload_n hx hb d578 rfl (lv_at hl 1 rfl) ?_
                  refine lv_aload_n hx hb d579 rfl (lv_at hl 0 rfl) ?_
                  refine lv_iload hx hb d580 (lv_at hl 4 rfl) ?_
                  refine lv_iconst (v := 1) hx hb d582 (by decide) ?_
                  refine lv_iadd hx hb d583 ?_
                  obtain ⟨hin, hf⟩ := x_sl_el hf
                  refine va_sld hx hb hX hbl hbA hS hin d584 ?_
                  refine lv_aload_n hx hb d585 rfl (lv_at hl 0 rfl) ?_
                  refine lv_iload hx hb d586 (lv_at hl 4 rfl) ?_
                  refine lv_iconst (v := 2) hx hb d588 (by decide) ?_
                  refine lv_iadd hx hb d589 ?_
                  obtain ⟨hin, hf⟩ := x_sl_el hf
                  refine va_sld hx hb hX hbl hbA hS hin d590 ?_
                  refine lv_aload_n hx hb d591 rfl (lv_at hl 0 rfl) ?_
                  refine lv_iload hx hb d592 (lv_at hl 4 rfl) ?_
                  refine lv_iconst (v := 3) hx hb d594 (by decide) ?_
                  refine lv_iadd hx hb d595 ?_
                  obtain ⟨hin, hf⟩ := x_sl_el hf
                  refine va_sld hx hb hX hbl hbA hS hin d596 ?_
                  refine lv_aload_n hx hb d597 rfl (lv_at hl 0 rfl) ?_
                  refine lv_iload hx hb d598 (lv_at hl 4 rfl) ?_
                  refine lv_iconst (v := 4) hx hb d600 (by decide) ?_
                  refine lv_iadd hx hb d601 ?_
                  obtain ⟨hin, hf⟩ := x_sl_el hf
                  refine va_sld hx hb hX hbl hbA hS hin d602 ?_
                  refine lv_aload_n hx hb d603 rfl (lv_at hl 3 rfl) ?_
                  refine x_thenLI hS hf (fun z0 e0 => x_runSX C0 hR hS me_L_addItem wt_L_addItem ml_L_138 (As := [.ref (xa E r1), .int (xs ((x4 + 1) : Int32).toNatClampNeg), .int (xs ((x4 + 2) : Int32).toNatClampNeg), .int (xs ((x4 + 3) : Int32).toNatClampNeg), .int (xs ((x4 + 4) : Int32).toNatClampNeg), .ref (xa E r3)]) (ct_L_addItem E l C0.2.2.2.2.2.2.2.1 _ r1 (xs ((x4 + 1) : Int32).toNatClampNeg) (xs ((x4 + 2) : Int32).toNatClampNeg) (xs ((x4 + 3) : Int32).toNatClampNeg) (xs ((x4 + 4) : Int32).toNatClampNeg) r3) rfl rfl hl.1 (Nat.le_of_ble_eq_true rfl) d604 ⟨(Nat.le_of_ble_eq_true rfl), (Nat.le_of_ble_eq_true rfl)⟩ ⟨(by show _ ≤ 601024; omega), (by show _ ≤ 7293034; omega)⟩ e0) (fun h9 i36 H locs hR hS hf => ?_)
                  refine lv_istore (lv' := [(5, .int i36), (0, .ref b), (1, .ref (xa E r1)), (2, .ref (xa E r2)), (3, .ref (xa E r3)), (4, .int x4)]) hx hb d607 hl (by decide) rfl (fun ls hl => ?_)
                  refine lv_aload_n hx hb d609 rfl (lv_at hl 3 rfl) ?_
                  refine lv_aload_n hx hb d610 rfl (lv_at hl 1 rfl) ?_
                  refine lv_iload hx hb d611 (lv_at hl 5 rfl) ?_
                  refine lv_iconst (v := 1) hx hb d613 (by decide) ?_
                  refine lv_iadd hx hb d614 ?_
                  obtain ⟨hin, hf⟩ := x_sl_el hf
                  refine va_sld hx hb hX hbl hbA hS hin d615 ?_
                  refine lv_aload_n hx hb d616 rfl (lv_at hl 1 rfl) ?_
                  refine lv_iload hx hb d617 (lv_at hl 5 rfl) ?_
                  refine lv_iconst (v := 2) hx hb d619 (by decide) ?_
                  refine lv_iadd hx hb d620 ?_
                  obtain ⟨hin, hf⟩ := x_sl_el hf
                  refine va_sld hx hb hX hbl hbA hS hin d621 ?_
                  refine lv_aload_n hx hb d622 rfl (lv_at hl 1 rfl) ?_
                  refine lv_iload hx hb d623 (lv_at hl 5 rfl) ?_
                  refine lv_iconst (v := 3) hx hb d625 (by decide) ?_
                  refine lv_iadd hx hb d626 ?_
                  obtain ⟨hin, hf⟩ := x_sl_el hf
                  refine va_sld hx hb hX hbl hbA hS hin d627 ?_
                  refine lv_aload_n hx hb d628 rfl (lv_at hl 1 rfl) ?_
                  refine lv_iload hx hb d629 (lv_at hl 5 rfl) ?_
                  refine lv_iconst (v := 4) hx hb d631 (by decide) ?_
                  refine lv_iadd hx hb d632 ?_
                  obtain ⟨hin, hf⟩ := x_sl_el hf
                  refine va_sld hx hb hX hbl hbA hS hin d633 ?_
                  obtain ⟨hs9, hf⟩ := x_if hf
                  refine x_thenLI hS hf (fun z0 e0 => x_runV C0 hR hS me_X8_addItem wi_X8_addItem wl_X8_addItem ml_L_141 hs9 xcl_8 (As := [.int (xs ((x4 + 1) : Int32).toNatClampNeg), .int (xs ((x4 + 2) : Int32).toNatClampNeg), .int (xs ((x4 + 3) : Int32).toNatClampNeg), .int (xs ((x4 + 4) : Int32).toNatClampNeg)]) (ct_X8_addItem E l C0.2.2.2.2.2.2.2.1 _ r2 (xs ((x4 + 1) : Int32).toNatClampNeg) (xs ((x4 + 2) : Int32).toNatClampNeg) (xs ((x4 + 3) : Int32).toNatClampNeg) (xs ((x4 + 4) : Int32).toNatClampNeg)) rfl rfl hl.1 (Nat.le_of_ble_eq_true rfl) d634 ⟨(Nat.le_of_ble_eq_true rfl), (Nat.le_of_ble_eq_true rfl)⟩ ⟨(by show _ ≤ 601024; omega), (by show _ ≤ 7293034; omega)⟩ e0) (fun h9 i38 H locs hR hS hf => ?_)
                  refine lv_istore (lv' := [(6, .int i38), (5, .int i36), (0, .ref b), (1, .ref (xa E r1)), (2, .ref (xa E r2)), (3, .ref (xa E r3)), (4, .int x4)]) hx hb d637 hl (by decide) rfl (fun ls hl => ?_)
                  refine lv_aload_n hx hb d639 rfl (lv_at hl 4 rfl) ?_
                  obtain ⟨hs9, hf⟩ := x_if hf
                  refine x_thenLI hS hf (fun z0 e0 => x_runV C0 hR hS me_X8_thrown wi_X8_thrown wl_X8_thrown ml_L_117 hs9 xcl_8 (As := []) (ct_X8_thrown E l C0.2.2.2.2.2.2.2.1 _ r2) rfl rfl hl.1 (Nat.le_of_ble_eq_true rfl) d640 ⟨(Nat.le_of_ble_eq_true rfl), (Nat.le_of_ble_eq_true rfl)⟩ ⟨(by show _ ≤ 601024; omega), (by show _ ≤ 7293034; omega)⟩ e0) (fun h9 i40 H locs hR hS hf => ?_)
                  refine lv_iload hx hb d643 (lv_at hl 1 rfl) ?_
                  refine lv_icmp_eq (tgt := 650) hx hb d645 (by decide) (fun q => ?_) (fun q => ?_)
                  · have hf := x_pos q hf
                    have h0 : x_by cL_law 650 [21, 5, 154, 0, 15] := by unfold x_by; decide +kernel
                    obtain ⟨d650, h0⟩ := de_iload h0
                    obtain ⟨d652, h0⟩ := de_if_ne (15) (by decide) h0
                    refine lv_iload hx hb d650 (lv_at hl 1 rfl) ?_
                    refine lv_if_ne (tgt := 667) hx hb d652 (by decide) (fun q => ?_) (fun q => ?_)
                    · have hf := x_neg q hf
                      exact s_L_law_b667 hE C0 hX hbl hbA hk23 _ _ _ _ _ _ _ _ _ _ (by omega) (by omega) hR hS (lv_sub hl [2, 3, 4, 5, 6] rfl) hf
                    · have hf := x_pos q hf
                      have h0 : x_by cL_law 655 [45, 3, 47, 21, 6, 133, 148, 153, 0, 5] := by unfold x_by; decide +kernel
                      obtain ⟨d655, h0⟩ := de_aload_n3 h0
                      obtain ⟨d656, h0⟩ := de_iconst_0 h0
                      obtain ⟨d657, h0⟩ := de_laload h0
                      obtain ⟨d658, h0⟩ := de_iload h0
                      obtain ⟨d660, h0⟩ := de_i2l h0
                      obtain ⟨d661, h0⟩ := de_lcmp h0
                      obtain ⟨d662, h0⟩ := de_if_eq (5) (by decide) h0
                      refine lv_aload_n hx hb d655 rfl (lv_at hl 5 rfl) ?_
                      refine lv_iconst (v := 0) hx hb d656 (by decide) ?_
                      refine x_lald C0 hR hf d657 (fun j42 hf => ?_)
                      refine lv_iload hx hb d658 (lv_at hl 0 rfl) ?_
                      refine lv_i2l hx hb d660 rfl ?_
                      refine W.lcmp hx hb d661 ?_
                      refine lv_if_eq (tgt := 667) hx hb d662 (by decide) (fun q => ?_) (fun q => ?_)
                      · have hf := x_pos q hf
                        exact s_L_law_b667 hE C0 hX hbl hbA hk23 _ _ _ _ _ _ _ _ _ _ (by omega) (by omega) hR hS (lv_sub hl [2, 3, 4, 5, 6] rfl) hf
                      · have hf := x_neg q hf
                        have h0 : x_by cL_law 665 [3, 172] := by unfold x_by; decide +kernel
                        obtain ⟨d665, h0⟩ := de_iconst_0 h0
                        obtain ⟨d666, h0⟩ := de_ireturn h0
                        refine lv_iconst (v := 0) hx hb d665 (by decide) ?_
                        cases hf
                  · have hf := x_neg q hf
                    have h0 : x_by cL_law 648 [3, 172] := by unfold x_by; decide +kernel
                    obtain ⟨d648, h0⟩ := de_iconst_0 h0
                    obtain ⟨d649, h0⟩ := de_ireturn h0
                    refine lv_iconst (v := 0) hx hb d648 (by decide) ?_
                    cases hf
                · have hf := x_neg q6 hf
                  by_cases q7 : ((xs (x4 : Int32).toNatClampNeg) &&& 31) = 7
                  · have hf := x_pos q7 hf
                    refine lv_tableIn (tgt := 670) hx hb d39 (by rw [q7]; decide) (by rw [q7]; decide) (by rw [q7]; first | done | rfl) (by decide) ?_
                    have h0 : x_by cL_law 670 [43, 42, 21, 4, 4, 96, 46, 42, 21, 4, 5, 96, 46, 42, 21, 4, 6, 96, 46, 42, 21, 4, 7, 96, 46, 45, 184, 0, 142, 54, 5, 44, 42, 21, 4, 4, 96, 46, 42, 21, 4, 5, 96, 46, 42, 21, 4, 6, 96, 46, 42, 21, 4, 7, 96, 46, 182, 0, 144, 54, 6, 44, 182, 0, 117, 21, 5, 159, 0, 5] := by unfold x_by; decide +kernel
                    obtain ⟨d670, h0⟩ := de_aload_n1 h0
                    obtain ⟨d671, h0⟩ := de_aload_n0 h0
                    obtain ⟨d672, h0⟩ := de_iload h0
                    obtain ⟨d674, h0⟩ := de_iconst_1 h0
                    obtain ⟨d675, h0⟩ := de_iadd h0
                    obtain ⟨d676, h0⟩ := de_iaload h0
                    obtain ⟨d677, h0⟩ := de_aload_n0 h0
                    obtain ⟨d678, h0⟩ := de_iload h0
                    obtain ⟨d680, h0⟩ := de_iconst_2 h0
                    obtain ⟨d681, h0⟩ := de_iadd h0
                    obtain ⟨d682, h0⟩ := de_iaload h0
                    obtain ⟨d683, h0⟩ := de_aload_n0 h0
                    obtain ⟨d684, h0⟩ := de_iload h0
                    obtain ⟨d686, h0⟩ := de_iconst_3 h0
                    obtain ⟨d687, h0⟩ := de_iadd h0
                    obtain ⟨d688, h0⟩ := de_iaload h0
                    obtain ⟨d689, h0⟩ := de_aload_n0 h0
                    obtain ⟨d690, h0⟩ := de_iload h0
                    obtain ⟨d692, h0⟩ := de_iconst_4 h0
                    obtain ⟨d693, h0⟩ := de_iadd h0
                    obtain ⟨d694, h0⟩ := de_iaload h0
                    obtain ⟨d695, h0⟩ := de_aload_n3 h0
                    obtain ⟨d696, h0⟩ := de_invokestatic 142 (by decide) h0
                    obtain ⟨d699, h0⟩ := de_istore h0
                    obtain ⟨d701, h0⟩ := de_aload_n2 h0
                    obtain ⟨d702, h0⟩ := de_aload_n0 h0
                    obtain ⟨d703, h0⟩ := de_iload h0
                    obtain ⟨d705, h0⟩ := de_iconst_1 h0
                    obtain ⟨d706, h0⟩ := de_iadd h0
                    obtain ⟨d707, h0⟩ := de_iaload h0
                    obtain ⟨d708, h0⟩ := de_aload_n0 h0
                    obtain ⟨d709, h0⟩ := de_iload h0
                    obtain ⟨d711, h0⟩ := de_iconst_2 h0
                    obtain ⟨d712, h0⟩ := de_iadd h0
                    obtain ⟨d713, h0⟩ := de_iaload h0
                    obtain ⟨d714, h0⟩ := de_aload_n0 h0
                    obtain ⟨d715, h0⟩ := de_iload h0
                    obtain ⟨d717, h0⟩ := de_iconst_3 h0
                    obtain ⟨d718, h0⟩ := de_iadd h0
                    obtain ⟨d719, h0⟩ := de_iaload h0
                    obtain ⟨d720, h0⟩ := de_aload_n0 h0
                    obtain ⟨d721, h0⟩ := de_iload h0
                    obtain ⟨d723, h0⟩ := de_iconst_4 h0
                    obtain ⟨d724, h0⟩ := de_iadd h0
                    obtain ⟨d725, h0⟩ := de_iaload h0
                    obtain ⟨d726, h0⟩ := de_invokevirtual 144 (by decide) h0
                    obtain ⟨d729, h0⟩ := de_istore h0
                    obtain ⟨d731, h0⟩ := de_aload_n2 h0
                    obtain ⟨d732, h0⟩ := de_invokevirtual 117 (by decide) h0
                    obtain ⟨d735, h0⟩ := de_iload h0
                    obtain ⟨d737, h0⟩ := de_icmp_eq (5) (by decide) h0
                    refine lv_aload_n hx hb d670 rfl (lv_at hl 1 rfl) ?_
                    refine lv_aload_n hx hb d671 rfl (lv_at hl 0 rfl) ?_
                    refine lv_iload hx hb d672 (lv_at hl 4 rfl) ?_
                    refine lv_iconst (v := 1) hx hb d674 (by decide) ?_
                    refine lv_iadd hx hb d675 ?_
                    obtain ⟨hin, hf⟩ := x_sl_el hf
                    refine va_sld hx hb hX hbl hbA hS hin d676 ?_
                    refine lv_aload_n hx hb d677 rfl (lv_at hl 0 rfl) ?_
                    refine lv_iload hx hb d678 (lv_at hl 4 rfl) ?_
                    refine lv_iconst (v := 2) hx hb d680 (by decide) ?_
                    refine lv_iadd hx hb d681 ?_
                    obtain ⟨hin, hf⟩ := x_sl_el hf
                    refine va_sld hx hb hX hbl hbA hS hin d682 ?_
                    refine lv_aload_n hx hb d683 rfl (lv_at hl 0 rfl) ?_
                    refine lv_iload hx hb d684 (lv_at hl 4 rfl) ?_
                    refine lv_iconst (v := 3) hx hb d686 (by decide) ?_
                    refine lv_iadd hx hb d687 ?_
                    obtain ⟨hin, hf⟩ := x_sl_el hf
                    refine va_sld hx hb hX hbl hbA hS hin d688 ?_
                    refine lv_aload_n hx hb d689 rfl (lv_at hl 0 rfl) ?_
                    refine lv_iload hx hb d690 (lv_at hl 4 rfl) ?_
                    refine lv_iconst (v := 4) hx hb d692 (by decide) ?_
                    refine lv_iadd hx hb d693 ?_
                    obtain ⟨hin, hf⟩ := x_sl_el hf
                    refine va_sld hx hb hX hbl hbA hS hin d694 ?_
                    refine lv_aload_n hx hb d695 rfl (lv_at hl 3 rfl) ?_
                    refine x_thenLI hS hf (fun z0 e0 => x_runSX C0 hR hS me_L_place wt_L_place ml_L_142 (As := [.ref (xa E r1), .int (xs ((x4 + 1) : Int32).toNatClampNeg), .int (xs ((x4 + 2) : Int32).toNatClampNeg), .int (xs ((x4 + 3) : Int32).toNatClampNeg), .int (xs ((x4 + 4) : Int32).toNatClampNeg), .ref (xa E r3)]) (ct_L_place E l C0.2.2.2.2.2.2.2.1 _ r1 (xs ((x4 + 1) : Int32).toNatClampNeg) (xs ((x4 + 2) : Int32).toNatClampNeg) (xs ((x4 + 3) : Int32).toNatClampNeg) (xs ((x4 + 4) : Int32).toNatClampNeg) r3) rfl rfl hl.1 (Nat.le_of_ble_eq_true rfl) d696 ⟨(Nat.le_of_ble_eq_true rfl), (Nat.le_of_ble_eq_true rfl)⟩ ⟨(by show _ ≤ 601024; omega), (by show _ ≤ 7293034; omega)⟩ e0) (fun h9 i43 H locs hR hS hf => ?_)
                    refine lv_istore (lv' := [(5, .int i43), (0, .ref b), (1, .ref (xa E r1)), (2, .ref (xa E r2)), (3, .ref (xa E r3)), (4, .int x4)]) hx hb d699 hl (by decide) rfl (fun ls hl => ?_)
                    refine lv_aload_n hx hb d701 rfl (lv_at hl 3 rfl) ?_
                    refine lv_aload_n hx hb d702 rfl (lv_at hl 1 rfl) ?_
                    refine lv_iload hx hb d703 (lv_at hl 5 rfl) ?_
                    refine lv_iconst (v := 1) hx hb d705 (by decide) ?_
                    refine lv_iadd hx hb d706 ?_
                    obtain ⟨hin, hf⟩ := x_sl_el hf
                    refine va_sld hx hb hX hbl hbA hS hin d707 ?_
                    refine lv_aload_n hx hb d708 rfl (lv_at hl 1 rfl) ?_
                    refine lv_iload hx hb d709 (lv_at hl 5 rfl) ?_
                    refine lv_iconst (v := 2) hx hb d711 (by decide) ?_
                    refine lv_iadd hx hb d712 ?_
                    obtain ⟨hin, hf⟩ := x_sl_el hf
                    refine va_sld hx hb hX hbl hbA hS hin d713 ?_
                    refine lv_aload_n hx hb d714 rfl (lv_at hl 1 rfl) ?_
                    refine lv_iload hx hb d715 (lv_at hl 5 rfl) ?_
                    refine lv_iconst (v := 3) hx hb d717 (by decide) ?_
                    refine lv_iadd hx hb d718 ?_
                    obtain ⟨hin, hf⟩ := x_sl_el hf
                    refine va_sld hx hb hX hbl hbA hS hin d719 ?_
                    refine lv_aload_n hx hb d720 rfl (lv_at hl 1 rfl) ?_
                    refine lv_iload hx hb d721 (lv_at hl 5 rfl) ?_
                    refine lv_iconst (v := 4) hx hb d723 (by decide) ?_
                    refine lv_iadd hx hb d724 ?_
                    obtain ⟨hin, hf⟩ := x_sl_el hf
                    refine va_sld hx hb hX hbl hbA hS hin d725 ?_
                    obtain ⟨hs9, hf⟩ := x_if hf
                    refine x_thenLI hS hf (fun z0 e0 => x_runV C0 hR hS me_X8_place wi_X8_place wl_X8_place ml_L_144 hs9 xcl_8 (As := [.int (xs ((x4 + 1) : Int32).toNatClampNeg), .int (xs ((x4 + 2) : Int32).toNatClampNeg), .int (xs ((x4 + 3) : Int32).toNatClampNeg), .int (xs ((x4 + 4) : Int32).toNatClampNeg)]) (ct_X8_place E l C0.2.2.2.2.2.2.2.1 _ r2 (xs ((x4 + 1) : Int32).toNatClampNeg) (xs ((x4 + 2) : Int32).toNatClampNeg) (xs ((x4 + 3) : Int32).toNatClampNeg) (xs ((x4 + 4) : Int32).toNatClampNeg)) rfl rfl hl.1 (Nat.le_of_ble_eq_true rfl) d726 ⟨(Nat.le_of_ble_eq_true rfl), (Nat.le_of_ble_eq_true rfl)⟩ ⟨(by show _ ≤ 601024; omega), (by show _ ≤ 7293034; omega)⟩ e0) (fun h9 i45 H locs hR hS hf => ?_)
                    refine lv_istore (lv' := [(6, .int i45), (5, .int i43), (0, .ref b), (1, .ref (xa E r1)), (2, .ref (xa E r2)), (3, .ref (xa E r3)), (4, .int x4)]) hx hb d729 hl (by decide) rfl (fun ls hl => ?_)
                    refine lv_aload_n hx hb d731 rfl (lv_at hl 4 rfl) ?_
                    obtain ⟨hs9, hf⟩ := x_if hf
                    refine x_thenLI hS hf (fun z0 e0 => x_runV C0 hR hS me_X8_thrown wi_X8_thrown wl_X8_thrown ml_L_117 hs9 xcl_8 (As := []) (ct_X8_thrown E l C0.2.2.2.2.2.2.2.1 _ r2) rfl rfl hl.1 (Nat.le_of_ble_eq_true rfl) d732 ⟨(Nat.le_of_ble_eq_true rfl), (Nat.le_of_ble_eq_true rfl)⟩ ⟨(by show _ ≤ 601024; omega), (by show _ ≤ 7293034; omega)⟩ e0) (fun h9 i47 H locs hR hS hf => ?_)
                    refine lv_iload hx hb d735 (lv_at hl 1 rfl) ?_
                    refine lv_icmp_eq (tgt := 742) hx hb d737 (by decide) (fun q => ?_) (fun q => ?_)
                    · have hf := x_pos q hf
                      have h0 : x_by cL_law 742 [21, 5, 154, 0, 15] := by unfold x_by; decide +kernel
                      obtain ⟨d742, h0⟩ := de_iload h0
                      obtain ⟨d744, h0⟩ := de_if_ne (15) (by decide) h0
                      refine lv_iload hx hb d742 (lv_at hl 1 rfl) ?_
                      refine lv_if_ne (tgt := 759) hx hb d744 (by decide) (fun q => ?_) (fun q => ?_)
                      · have hf := x_neg q hf
                        exact s_L_law_b759 hE C0 hX hbl hbA hk23 _ _ _ _ _ _ _ _ _ _ (by omega) (by omega) hR hS (lv_sub hl [2, 3, 4, 5, 6] rfl) hf
                      · have hf := x_pos q hf
                        have h0 : x_by cL_law 747 [45, 3, 47, 21, 6, 133, 148, 153, 0, 5] := by unfold x_by; decide +kernel
                        obtain ⟨d747, h0⟩ := de_aload_n3 h0
                        obtain ⟨d748, h0⟩ := de_iconst_0 h0
                        obtain ⟨d749, h0⟩ := de_laload h0
                        obtain ⟨d750, h0⟩ := de_iload h0
                        obtain ⟨d752, h0⟩ := de_i2l h0
                        obtain ⟨d753, h0⟩ := de_lcmp h0
                        obtain ⟨d754, h0⟩ := de_if_eq (5) (by decide) h0
                        refine lv_aload_n hx hb d747 rfl (lv_at hl 5 rfl) ?_
                        refine lv_iconst (v := 0) hx hb d748 (by decide) ?_
                        refine x_lald C0 hR hf d749 (fun j49 hf => ?_)
                        refine lv_iload hx hb d750 (lv_at hl 0 rfl) ?_
                        refine lv_i2l hx hb d752 rfl ?_
                        refine W.lcmp hx hb d753 ?_
                        refine lv_if_eq (tgt := 759) hx hb d754 (by decide) (fun q => ?_) (fun q => ?_)
                        · have hf := x_pos q hf
                          exact s_L_law_b759 hE C0 hX hbl hbA hk23 _ _ _ _ _ _ _ _ _ _ (by omega) (by omega) hR hS (lv_sub hl [2, 3, 4, 5, 6] rfl) hf
                        · have hf := x_neg q hf
                          have h0 : x_by cL_law 757 [3, 172] := by unfold x_by; decide +kernel
                          obtain ⟨d757, h0⟩ := de_iconst_0 h0
                          obtain ⟨d758, h0⟩ := de_ireturn h0
                          refine lv_iconst (v := 0) hx hb d757 (by decide) ?_
                          cases hf
                    · have hf := x_neg q hf
                      have h0 : x_by cL_law 740 [3, 172] := by unfold x_by; decide +kernel
                      obtain ⟨d740, h0⟩ := de_iconst_0 h0
                      obtain ⟨d741, h0⟩ := de_ireturn h0
                      refine lv_iconst (v := 0) hx hb d740 (by decide) ?_
                      cases hf
                  · have hf := x_neg q7 hf
                    by_cases q8 : ((xs (x4 : Int32).toNatClampNeg) &&& 31) = 8
                    · have hf := x_pos q8 hf
                      refine lv_tableIn (tgt := 762) hx hb d39 (by rw [q8]; decide) (by rw [q8]; decide) (by rw [q8]; first | done | rfl) (by decide) ?_
                      have h0 : x_by cL_law 762 [43, 42, 21, 4, 4, 96, 46, 42, 21, 4, 5, 96, 46, 42, 21, 4, 6, 96, 46, 45, 184, 0, 145, 54, 5, 44, 42, 21, 4, 4, 96, 46, 42, 21, 4, 5, 96, 46, 42, 21, 4, 6, 96, 46, 182, 0, 147, 54, 6, 44, 182, 0, 117, 21, 5, 159, 0, 5] := by unfold x_by; decide +kernel
                      obtain ⟨d762, h0⟩ := de_aload_n1 h0
                      obtain ⟨d763, h0⟩ := de_aload_n0 h0
                      obtain ⟨d764, h0⟩ := de_iload h0
                      obtain ⟨d766, h0⟩ := de_iconst_1 h0
                      obtain ⟨d767, h0⟩ := de_iadd h0
                      obtain ⟨d768, h0⟩ := de_iaload h0
                      obtain ⟨d769, h0⟩ := de_aload_n0 h0
                      obtain ⟨d770, h0⟩ := de_iload h0
                      obtain ⟨d772, h0⟩ := de_iconst_2 h0
                      obtain ⟨d773, h0⟩ := de_iadd h0
                      obtain ⟨d774, h0⟩ := de_iaload h0
                      obtain ⟨d775, h0⟩ := de_aload_n0 h0
                      obtain ⟨d776, h0⟩ := de_iload h0
                      obtain ⟨d778, h0⟩ := de_iconst_3 h0
                      obtain ⟨d779, h0⟩ := de_iadd h0
                      obtain ⟨d780, h0⟩ := de_iaload h0
                      obtain ⟨d781, h0⟩ := de_aload_n3 h0
                      obtain ⟨d782, h0⟩ := de_invokestatic 145 (by decide) h0
                      obtain ⟨d785, h0⟩ := de_istore h0
                      obtain ⟨d787, h0⟩ := de_aload_n2 h0
                      obtain ⟨d788, h0⟩ := de_aload_n0 h0
                      obtain ⟨d789, h0⟩ := de_iload h0
                      obtain ⟨d791, h0⟩ := de_iconst_1 h0
                      obtain ⟨d792, h0⟩ := de_iadd h0
                      obtain ⟨d793, h0⟩ := de_iaload h0
                      obtain ⟨d794, h0⟩ := de_aload_n0 h0
                      obtain ⟨d795, h0⟩ := de_iload h0
                      obtain ⟨d797, h0⟩ := de_iconst_2 h0
                      obtain ⟨d798, h0⟩ := de_iadd h0
                      obtain ⟨d799, h0⟩ := de_iaload h0
                      obtain ⟨d800, h0⟩ := de_aload_n0 h0
                      obtain ⟨d801, h0⟩ := de_iload h0
                      obtain ⟨d803, h0⟩ := de_iconst_3 h0
                      obtain ⟨d804, h0⟩ := de_iadd h0
                      obtain ⟨d805, h0⟩ := de_iaload h0
                      obtain ⟨d806, h0⟩ := de_invokevirtual 147 (by decide) h0
                      obtain ⟨d809, h0⟩ := de_istore h0
                      obtain ⟨d811, h0⟩ := de_aload_n2 h0
                      obtain ⟨d812, h0⟩ := de_invokevirtual 117 (by decide) h0
                      obtain ⟨d815, h0⟩ := de_iload h0
                      obtain ⟨d817, h0⟩ := de_icmp_eq (5) (by decide) h0
                      refine lv_aload_n hx hb d762 rfl (lv_at hl 1 rfl) ?_
                      refine lv_aload_n hx hb d763 rfl (lv_at hl 0 rfl) ?_
                      refine lv_iload hx hb d764 (lv_at hl 4 rfl) ?_
                      refine lv_iconst (v := 1) hx hb d766 (by decide) ?_
                      refine lv_iadd hx hb d767 ?_
                      obtain ⟨hin, hf⟩ := x_sl_el hf
                      refine va_sld hx hb hX hbl hbA hS hin d768 ?_
                      refine lv_aload_n hx hb d769 rfl (lv_at hl 0 rfl) ?_
                      refine lv_iload hx hb d770 (lv_at hl 4 rfl) ?_
                      refine lv_iconst (v := 2) hx hb d772 (by decide) ?_
                      refine lv_iadd hx hb d773 ?_
                      obtain ⟨hin, hf⟩ := x_sl_el hf
                      refine va_sld hx hb hX hbl hbA hS hin d774 ?_
                      refine lv_aload_n hx hb d775 rfl (lv_at hl 0 rfl) ?_
                      refine lv_iload hx hb d776 (lv_at hl 4 rfl) ?_
                      refine lv_iconst (v := 3) hx hb d778 (by decide) ?_
                      refine lv_iadd hx hb d779 ?_
                      obtain ⟨hin, hf⟩ := x_sl_el hf
                      refine va_sld hx hb hX hbl hbA hS hin d780 ?_
                      refine lv_aload_n hx hb d781 rfl (lv_at hl 3 rfl) ?_
                      refine x_thenLI hS hf (fun z0 e0 => x_runSX C0 hR hS me_L_align wt_L_align ml_L_145 (As := [.ref (xa E r1), .int (xs ((x4 + 1) : Int32).toNatClampNeg), .int (xs ((x4 + 2) : Int32).toNatClampNeg), .int (xs ((x4 + 3) : Int32).toNatClampNeg), .ref (xa E r3)]) (ct_L_align E l C0.2.2.2.2.2.2.2.1 _ r1 (xs ((x4 + 1) : Int32).toNatClampNeg) (xs ((x4 + 2) : Int32).toNatClampNeg) (xs ((x4 + 3) : Int32).toNatClampNeg) r3) rfl rfl hl.1 (Nat.le_of_ble_eq_true rfl) d782 ⟨(Nat.le_of_ble_eq_true rfl), (Nat.le_of_ble_eq_true rfl)⟩ ⟨(by show _ ≤ 601024; omega), (by show _ ≤ 7293034; omega)⟩ e0) (fun h9 i50 H locs hR hS hf => ?_)
                      refine lv_istore (lv' := [(5, .int i50), (0, .ref b), (1, .ref (xa E r1)), (2, .ref (xa E r2)), (3, .ref (xa E r3)), (4, .int x4)]) hx hb d785 hl (by decide) rfl (fun ls hl => ?_)
                      refine lv_aload_n hx hb d787 rfl (lv_at hl 3 rfl) ?_
                      refine lv_aload_n hx hb d788 rfl (lv_at hl 1 rfl) ?_
                      refine lv_iload hx hb d789 (lv_at hl 5 rfl) ?_
                      refine lv_iconst (v := 1) hx hb d791 (by decide) ?_
                      refine lv_iadd hx hb d792 ?_
                      obtain ⟨hin, hf⟩ := x_sl_el hf
                      refine va_sld hx hb hX hbl hbA hS hin d793 ?_
                      refine lv_aload_n hx hb d794 rfl (lv_at hl 1 rfl) ?_
                      refine lv_iload hx hb d795 (lv_at hl 5 rfl) ?_
                      refine lv_iconst (v := 2) hx hb d797 (by decide) ?_
                      refine lv_iadd hx hb d798 ?_
                      obtain ⟨hin, hf⟩ := x_sl_el hf
                      refine va_sld hx hb hX hbl hbA hS hin d799 ?_
                      refine lv_aload_n hx hb d800 rfl (lv_at hl 1 rfl) ?_
                      refine lv_iload hx hb d801 (lv_at hl 5 rfl) ?_
                      refine lv_iconst (v := 3) hx hb d803 (by decide) ?_
                      refine lv_iadd hx hb d804 ?_
                      obtain ⟨hin, hf⟩ := x_sl_el hf
                      refine va_sld hx hb hX hbl hbA hS hin d805 ?_
                      obtain ⟨hs9, hf⟩ := x_if hf
                      refine x_thenLI hS hf (fun z0 e0 => x_runV C0 hR hS me_X8_align wi_X8_align wl_X8_align ml_L_147 hs9 xcl_8 (As := [.int (xs ((x4 + 1) : Int32).toNatClampNeg), .int (xs ((x4 + 2) : Int32).toNatClampNeg), .int (xs ((x4 + 3) : Int32).toNatClampNeg)]) (ct_X8_align E l C0.2.2.2.2.2.2.2.1 _ r2 (xs ((x4 + 1) : Int32).toNatClampNeg) (xs ((x4 + 2) : Int32).toNatClampNeg) (xs ((x4 + 3) : Int32).toNatClampNeg)) rfl rfl hl.1 (Nat.le_of_ble_eq_true rfl) d806 ⟨(Nat.le_of_ble_eq_true rfl), (Nat.le_of_ble_eq_true rfl)⟩ ⟨(by show _ ≤ 601024; omega), (by show _ ≤ 7293034; omega)⟩ e0) (fun h9 i52 H locs hR hS hf => ?_)
                      refine lv_istore (lv' := [(6, .int i52), (5, .int i50), (0, .ref b), (1, .ref (xa E r1)), (2, .ref (xa E r2)), (3, .ref (xa E r3)), (4, .int x4)]) hx hb d809 hl (by decide) rfl (fun ls hl => ?_)
                      refine lv_aload_n hx hb d811 rfl (lv_at hl 4 rfl) ?_
                      obtain ⟨hs9, hf⟩ := x_if hf
                      refine x_thenLI hS hf (fun z0 e0 => x_runV C0 hR hS me_X8_thrown wi_X8_thrown wl_X8_thrown ml_L_117 hs9 xcl_8 (As := []) (ct_X8_thrown E l C0.2.2.2.2.2.2.2.1 _ r2) rfl rfl hl.1 (Nat.le_of_ble_eq_true rfl) d812 ⟨(Nat.le_of_ble_eq_true rfl), (Nat.le_of_ble_eq_true rfl)⟩ ⟨(by show _ ≤ 601024; omega), (by show _ ≤ 7293034; omega)⟩ e0) (fun h9 i54 H locs hR hS hf => ?_)
                      refine lv_iload hx hb d815 (lv_at hl 1 rfl) ?_
                      refine lv_icmp_eq (tgt := 822) hx hb d817 (by decide) (fun q => ?_) (fun q => ?_)
                      · have hf := x_pos q hf
                        have h0 : x_by cL_law 822 [21, 5, 154, 0, 15] := by unfold x_by; decide +kernel
                        obtain ⟨d822, h0⟩ := de_iload h0
                        obtain ⟨d824, h0⟩ := de_if_ne (15) (by decide) h0
                        refine lv_iload hx hb d822 (lv_at hl 1 rfl) ?_
                        refine lv_if_ne (tgt := 839) hx hb d824 (by decide) (fun q => ?_) (fun q => ?_)
                        · have hf := x_neg q hf
                          exact s_L_law_b839 hE C0 hX hbl hbA hk23 _ _ _ _ _ _ _ _ _ _ (by omega) (by omega) hR hS (lv_sub hl [2, 3, 4, 5, 6] rfl) hf
                        · have hf := x_pos q hf
                          have h0 : x_by cL_law 827 [45, 3, 47, 21, 6, 133, 148, 153, 0, 5] := by unfold x_by; decide +kernel
                          obtain ⟨d827, h0⟩ := de_aload_n3 h0
                          obtain ⟨d828, h0⟩ := de_iconst_0 h0
                          obtain ⟨d829, h0⟩ := de_laload h0
                          obtain ⟨d830, h0⟩ := de_iload h0
                          obtain ⟨d832, h0⟩ := de_i2l h0
                          obtain ⟨d833, h0⟩ := de_lcmp h0
                          obtain ⟨d834, h0⟩ := de_if_eq (5) (by decide) h0
                          refine lv_aload_n hx hb d827 rfl (lv_at hl 5 rfl) ?_
                          refine lv_iconst (v := 0) hx hb d828 (by decide) ?_
                          refine x_lald C0 hR hf d829 (fun j56 hf => ?_)
                          refine lv_iload hx hb d830 (lv_at hl 0 rfl) ?_
                          refine lv_i2l hx hb d832 rfl ?_
                          refine W.lcmp hx hb d833 ?_
                          refine lv_if_eq (tgt := 839) hx hb d834 (by decide) (fun q => ?_) (fun q => ?_)
                          · have hf := x_pos q hf
                            exact s_L_law_b839 hE C0 hX hbl hbA hk23 _ _ _ _ _ _ _ _ _ _ (by omega) (by omega) hR hS (lv_sub hl [2, 3, 4, 5, 6] rfl) hf
                          · have hf := x_neg q hf
                            have h0 : x_by cL_law 837 [3, 172] := by unfold x_by; decide +kernel
                            obtain ⟨d837, h0⟩ := de_iconst_0 h0
                            obtain ⟨d838, h0⟩ := de_ireturn h0
                            refine lv_iconst (v := 0) hx hb d837 (by decide) ?_
                            cases hf
                      · have hf := x_neg q hf
                        have h0 : x_by cL_law 820 [3, 172] := by unfold x_by; decide +kernel
                        obtain ⟨d820, h0⟩ := de_iconst_0 h0
                        obtain ⟨d821, h0⟩ := de_ireturn h0
                        refine lv_iconst (v := 0) hx hb d820 (by decide) ?_
                        cases hf
                    · have hf := x_neg q8 hf
                      by_cases q9 : ((xs (x4 : Int32).toNatClampNeg) &&& 31) = 9
                      · have hf := x_pos q9 hf
                        refine lv_tableIn (tgt := 842) hx hb d39 (by rw [q9]; decide) (by rw [q9]; decide) (by rw [q9]; first | done | rfl) (by decide) ?_
                        have h0 : x_by cL_law 842 [43, 42, 21, 4, 4, 96, 46, 42, 21, 4, 5, 96, 46, 42, 21, 4, 6, 96, 46, 153, 0, 7] := by unfold x_by; decide +kernel
                        obtain ⟨d842, h0⟩ := de_aload_n1 h0
                        obtain ⟨d843, h0⟩ := de_aload_n0 h0
                        obtain ⟨d844, h0⟩ := de_iload h0
                        obtain ⟨d846, h0⟩ := de_iconst_1 h0
                        obtain ⟨d847, h0⟩ := de_iadd h0
                        obtain ⟨d848, h0⟩ := de_iaload h0
                        obtain ⟨d849, h0⟩ := de_aload_n0 h0
                        obtain ⟨d850, h0⟩ := de_iload h0
                        obtain ⟨d852, h0⟩ := de_iconst_2 h0
                        obtain ⟨d853, h0⟩ := de_iadd h0
                        obtain ⟨d854, h0⟩ := de_iaload h0
                        obtain ⟨d855, h0⟩ := de_aload_n0 h0
                        obtain ⟨d856, h0⟩ := de_iload h0
                        obtain ⟨d858, h0⟩ := de_iconst_3 h0
                        obtain ⟨d859, h0⟩ := de_iadd h0
                        obtain ⟨d860, h0⟩ := de_iaload h0
                        obtain ⟨d861, h0⟩ := de_if_eq (7) (by decide) h0
                        refine lv_aload_n hx hb d842 rfl (lv_at hl 1 rfl) ?_
                        refine lv_aload_n hx hb d843 rfl (lv_at hl 0 rfl) ?_
                        refine lv_iload hx hb d844 (lv_at hl 4 rfl) ?_
                        refine lv_iconst (v := 1) hx hb d846 (by decide) ?_
                        refine lv_iadd hx hb d847 ?_
                        obtain ⟨hin, hf⟩ := x_sl_el hf
                        refine va_sld hx hb hX hbl hbA hS hin d848 ?_
                        refine lv_aload_n hx hb d849 rfl (lv_at hl 0 rfl) ?_
                        refine lv_iload hx hb d850 (lv_at hl 4 rfl) ?_
                        refine lv_iconst (v := 2) hx hb d852 (by decide) ?_
                        refine lv_iadd hx hb d853 ?_
                        obtain ⟨hin, hf⟩ := x_sl_el hf
                        refine va_sld hx hb hX hbl hbA hS hin d854 ?_
                        refine lv_aload_n hx hb d855 rfl (lv_at hl 0 rfl) ?_
                        refine lv_iload hx hb d856 (lv_at hl 4 rfl) ?_
                        refine lv_iconst (v := 3) hx hb d858 (by decide) ?_
                        refine lv_iadd hx hb d859 ?_
                        obtain ⟨hin, hf⟩ := x_sl_el hf
                        refine va_sld hx hb hX hbl hbA hS hin d860 ?_
                        refine lv_if_eq (tgt := 868) hx hb d861 (by decide) (fun q => ?_) (fun q => ?_)
                        · have hf := x_pos q hf
                          have h0 : x_by cL_law 868 [3] := by unfold x_by; decide +kernel
                          obtain ⟨d868, h0⟩ := de_iconst_0 h0
                          refine lv_iconst (v := 0) hx hb d868 (by decide) ?_
                          exact s_L_law_b869 hE C0 hX hbl hbA hk23 _ _ _ _ _ _ _ _ _ _ _ _ _ _ (by omega) (by omega) hR hS (lv_sub hl [0, 1, 2, 3, 4] rfl) hf
                        · have hf := x_neg q hf
                          have h0 : x_by cL_law 864 [4, 167, 0, 4] := by unfold x_by; decide +kernel
                          obtain ⟨d864, h0⟩ := de_iconst_1 h0
                          obtain ⟨d865, h0⟩ := de_goto (4) (by decide) h0
                          refine lv_iconst (v := 1) hx hb d864 (by decide) ?_
                          refine lv_goto (tgt := 869) hx hb d865 (by decide) ?_
                          exact s_L_law_b869 hE C0 hX hbl hbA hk23 _ _ _ _ _ _ _ _ _ _ _ _ _ _ (by omega) (by omega) hR hS (lv_sub hl [0, 1, 2, 3, 4] rfl) hf
                      · have hf := x_neg q9 hf
                        by_cases q10 : ((xs (x4 : Int32).toNatClampNeg) &&& 31) = 10
                        · have hf := x_pos q10 hf
                          refine lv_tableIn (tgt := 950) hx hb d39 (by rw [q10]; decide) (by rw [q10]; decide) (by rw [q10]; first | done | rfl) (by decide) ?_
                          have h0 : x_by cL_law 950 [43, 42, 21, 4, 4, 96, 46, 45, 184, 0, 152, 54, 5, 44, 42, 21, 4, 4, 96, 46, 182, 0, 154, 54, 6, 44, 182, 0, 117, 21, 5, 159, 0, 5] := by unfold x_by; decide +kernel
                          obtain ⟨d950, h0⟩ := de_aload_n1 h0
                          obtain ⟨d951, h0⟩ := de_aload_n0 h0
                          obtain ⟨d952, h0⟩ := de_iload h0
                          obtain ⟨d954, h0⟩ := de_iconst_1 h0
                          obtain ⟨d955, h0⟩ := de_iadd h0
                          obtain ⟨d956, h0⟩ := de_iaload h0
                          obtain ⟨d957, h0⟩ := de_aload_n3 h0
                          obtain ⟨d958, h0⟩ := de_invokestatic 152 (by decide) h0
                          obtain ⟨d961, h0⟩ := de_istore h0
                          obtain ⟨d963, h0⟩ := de_aload_n2 h0
                          obtain ⟨d964, h0⟩ := de_aload_n0 h0
                          obtain ⟨d965, h0⟩ := de_iload h0
                          obtain ⟨d967, h0⟩ := de_iconst_1 h0
                          obtain ⟨d968, h0⟩ := de_iadd h0
                          obtain ⟨d969, h0⟩ := de_iaload h0
                          obtain ⟨d970, h0⟩ := de_invokevirtual 154 (by decide) h0
                          obtain ⟨d973, h0⟩ := de_istore h0
                          obtain ⟨d975, h0⟩ := de_aload_n2 h0
                          obtain ⟨d976, h0⟩ := de_invokevirtual 117 (by decide) h0
                          obtain ⟨d979, h0⟩ := de_iload h0
                          obtain ⟨d981, h0⟩ := de_icmp_eq (5) (by decide) h0
                          refine lv_aload_n hx hb d950 rfl (lv_at hl 1 rfl) ?_
                          refine lv_aload_n hx hb d951 rfl (lv_at hl 0 rfl) ?_
                          refine lv_iload hx hb d952 (lv_at hl 4 rfl) ?_
                          refine lv_iconst (v := 1) hx hb d954 (by decide) ?_
                          refine lv_iadd hx hb d955 ?_
                          obtain ⟨hin, hf⟩ := x_sl_el hf
                          refine va_sld hx hb hX hbl hbA hS hin d956 ?_
                          refine lv_aload_n hx hb d957 rfl (lv_at hl 3 rfl) ?_
                          refine x_thenLI hS hf (fun z0 e0 => x_runSX C0 hR hS me_L_removeItem wt_L_removeItem ml_L_152 (As := [.ref (xa E r1), .int (xs ((x4 + 1) : Int32).toNatClampNeg), .ref (xa E r3)]) (ct_L_removeItem E l C0.2.2.2.2.2.2.2.1 _ r1 (xs ((x4 + 1) : Int32).toNatClampNeg) r3) rfl rfl hl.1 (Nat.le_of_ble_eq_true rfl) d958 ⟨(Nat.le_of_ble_eq_true rfl), (Nat.le_of_ble_eq_true rfl)⟩ ⟨(by show _ ≤ 601024; omega), (by show _ ≤ 7293034; omega)⟩ e0) (fun h9 i57 H locs hR hS hf => ?_)
                          refine lv_istore (lv' := [(5, .int i57), (0, .ref b), (1, .ref (xa E r1)), (2, .ref (xa E r2)), (3, .ref (xa E r3)), (4, .int x4)]) hx hb d961 hl (by decide) rfl (fun ls hl => ?_)
                          refine lv_aload_n hx hb d963 rfl (lv_at hl 3 rfl) ?_
                          refine lv_aload_n hx hb d964 rfl (lv_at hl 1 rfl) ?_
                          refine lv_iload hx hb d965 (lv_at hl 5 rfl) ?_
                          refine lv_iconst (v := 1) hx hb d967 (by decide) ?_
                          refine lv_iadd hx hb d968 ?_
                          obtain ⟨hin, hf⟩ := x_sl_el hf
                          refine va_sld hx hb hX hbl hbA hS hin d969 ?_
                          obtain ⟨hs9, hf⟩ := x_if hf
                          refine x_thenLI hS hf (fun z0 e0 => x_runV C0 hR hS me_X8_removeItem wi_X8_removeItem wl_X8_removeItem ml_L_154 hs9 xcl_8 (As := [.int (xs ((x4 + 1) : Int32).toNatClampNeg)]) (ct_X8_removeItem E l C0.2.2.2.2.2.2.2.1 _ r2 (xs ((x4 + 1) : Int32).toNatClampNeg)) rfl rfl hl.1 (Nat.le_of_ble_eq_true rfl) d970 ⟨(Nat.le_of_ble_eq_true rfl), (Nat.le_of_ble_eq_true rfl)⟩ ⟨(by show _ ≤ 601024; omega), (by show _ ≤ 7293034; omega)⟩ e0) (fun h9 i59 H locs hR hS hf => ?_)
                          refine lv_istore (lv' := [(6, .int i59), (5, .int i57), (0, .ref b), (1, .ref (xa E r1)), (2, .ref (xa E r2)), (3, .ref (xa E r3)), (4, .int x4)]) hx hb d973 hl (by decide) rfl (fun ls hl => ?_)
                          refine lv_aload_n hx hb d975 rfl (lv_at hl 4 rfl) ?_
                          obtain ⟨hs9, hf⟩ := x_if hf
                          refine x_thenLI hS hf (fun z0 e0 => x_runV C0 hR hS me_X8_thrown wi_X8_thrown wl_X8_thrown ml_L_117 hs9 xcl_8 (As := []) (ct_X8_thrown E l C0.2.2.2.2.2.2.2.1 _ r2) rfl rfl hl.1 (Nat.le_of_ble_eq_true rfl) d976 ⟨(Nat.le_of_ble_eq_true rfl), (Nat.le_of_ble_eq_true rfl)⟩ ⟨(by show _ ≤ 601024; omega), (by show _ ≤ 7293034; omega)⟩ e0) (fun h9 i61 H locs hR hS hf => ?_)
                          refine lv_iload hx hb d979 (lv_at hl 1 rfl) ?_
                          refine lv_icmp_eq (tgt := 986) hx hb d981 (by decide) (fun q => ?_) (fun q => ?_)
                          · have hf := x_pos q hf
                            have h0 : x_by cL_law 986 [21, 5, 154, 0, 15] := by unfold x_by; decide +kernel
                            obtain ⟨d986, h0⟩ := de_iload h0
                            obtain ⟨d988, h0⟩ := de_if_ne (15) (by decide) h0
                            refine lv_iload hx hb d986 (lv_at hl 1 rfl) ?_
                            refine lv_if_ne (tgt := 1003) hx hb d988 (by decide) (fun q => ?_) (fun q => ?_)
                            · have hf := x_neg q hf
                              exact s_L_law_b1003 hE C0 hX hbl hbA hk23 _ _ _ _ _ _ _ _ _ _ (by omega) (by omega) hR hS (lv_sub hl [2, 3, 4, 5, 6] rfl) hf
                            · have hf := x_pos q hf
                              have h0 : x_by cL_law 991 [45, 3, 47, 21, 6, 133, 148, 153, 0, 5] := by unfold x_by; decide +kernel
                              obtain ⟨d991, h0⟩ := de_aload_n3 h0
                              obtain ⟨d992, h0⟩ := de_iconst_0 h0
                              obtain ⟨d993, h0⟩ := de_laload h0
                              obtain ⟨d994, h0⟩ := de_iload h0
                              obtain ⟨d996, h0⟩ := de_i2l h0
                              obtain ⟨d997, h0⟩ := de_lcmp h0
                              obtain ⟨d998, h0⟩ := de_if_eq (5) (by decide) h0
                              refine lv_aload_n hx hb d991 rfl (lv_at hl 5 rfl) ?_
                              refine lv_iconst (v := 0) hx hb d992 (by decide) ?_
                              refine x_lald C0 hR hf d993 (fun j63 hf => ?_)
                              refine lv_iload hx hb d994 (lv_at hl 0 rfl) ?_
                              refine lv_i2l hx hb d996 rfl ?_
                              refine W.lcmp hx hb d997 ?_
                              refine lv_if_eq (tgt := 1003) hx hb d998 (by decide) (fun q => ?_) (fun q => ?_)
                              · have hf := x_pos q hf
                                exact s_L_law_b1003 hE C0 hX hbl hbA hk23 _ _ _ _ _ _ _ _ _ _ (by omega) (by omega) hR hS (lv_sub hl [2, 3, 4, 5, 6] rfl) hf
                              · have hf := x_neg q hf
                                have h0 : x_by cL_law 1001 [3, 172] := by unfold x_by; decide +kernel
                                obtain ⟨d1001, h0⟩ := de_iconst_0 h0
                                obtain ⟨d1002, h0⟩ := de_ireturn h0
                                refine lv_iconst (v := 0) hx hb d1001 (by decide) ?_
                                cases hf
                          · have hf := x_neg q hf
                            have h0 : x_by cL_law 984 [3, 172] := by unfold x_by; decide +kernel
                            obtain ⟨d984, h0⟩ := de_iconst_0 h0
                            obtain ⟨d985, h0⟩ := de_ireturn h0
                            refine lv_iconst (v := 0) hx hb d984 (by decide) ?_
                            cases hf
                        · have hf := x_neg q10 hf
                          by_cases q11 : ((xs (x4 : Int32).toNatClampNeg) &&& 31) = 11
                          · have hf := x_pos q11 hf
                            refine lv_tableIn (tgt := 1006) hx hb d39 (by rw [q11]; decide) (by rw [q11]; decide) (by rw [q11]; first | done | rfl) (by decide) ?_
                            have h0 : x_by cL_law 1006 [43, 42, 21, 4, 4, 96, 46, 42, 21, 4, 5, 96, 46, 45, 184, 0, 155, 54, 5, 44, 42, 21, 4, 4, 96, 46, 42, 21, 4, 5, 96, 46, 182, 0, 158, 54, 6, 44, 182, 0, 117, 21, 5, 159, 0, 5] := by unfold x_by; decide +kernel
                            obtain ⟨d1006, h0⟩ := de_aload_n1 h0
                            obtain ⟨d1007, h0⟩ := de_aload_n0 h0
                            obtain ⟨d1008, h0⟩ := de_iload h0
                            obtain ⟨d1010, h0⟩ := de_iconst_1 h0
                            obtain ⟨d1011, h0⟩ := de_iadd h0
                            obtain ⟨d1012, h0⟩ := de_iaload h0
                            obtain ⟨d1013, h0⟩ := de_aload_n0 h0
                            obtain ⟨d1014, h0⟩ := de_iload h0
                            obtain ⟨d1016, h0⟩ := de_iconst_2 h0
                            obtain ⟨d1017, h0⟩ := de_iadd h0
                            obtain ⟨d1018, h0⟩ := de_iaload h0
                            obtain ⟨d1019, h0⟩ := de_aload_n3 h0
                            obtain ⟨d1020, h0⟩ := de_invokestatic 155 (by decide) h0
                            obtain ⟨d1023, h0⟩ := de_istore h0
                            obtain ⟨d1025, h0⟩ := de_aload_n2 h0
                            obtain ⟨d1026, h0⟩ := de_aload_n0 h0
                            obtain ⟨d1027, h0⟩ := de_iload h0
                            obtain ⟨d1029, h0⟩ := de_iconst_1 h0
                            obtain ⟨d1030, h0⟩ := de_iadd h0
                            obtain ⟨d1031, h0⟩ := de_iaload h0
                            obtain ⟨d1032, h0⟩ := de_aload_n0 h0
                            obtain ⟨d1033, h0⟩ := de_iload h0
                            obtain ⟨d1035, h0⟩ := de_iconst_2 h0
                            obtain ⟨d1036, h0⟩ := de_iadd h0
                            obtain ⟨d1037, h0⟩ := de_iaload h0
                            obtain ⟨d1038, h0⟩ := de_invokevirtual 158 (by decide) h0
                            obtain ⟨d1041, h0⟩ := de_istore h0
                            obtain ⟨d1043, h0⟩ := de_aload_n2 h0
                            obtain ⟨d1044, h0⟩ := de_invokevirtual 117 (by decide) h0
                            obtain ⟨d1047, h0⟩ := de_iload h0
                            obtain ⟨d1049, h0⟩ := de_icmp_eq (5) (by decide) h0
                            refine lv_aload_n hx hb d1006 rfl (lv_at hl 1 rfl) ?_
                            refine lv_aload_n hx hb d1007 rfl (lv_at hl 0 rfl) ?_
                            refine lv_iload hx hb d1008 (lv_at hl 4 rfl) ?_
                            refine lv_iconst (v := 1) hx hb d1010 (by decide) ?_
                            refine lv_iadd hx hb d1011 ?_
                            obtain ⟨hin, hf⟩ := x_sl_el hf
                            refine va_sld hx hb hX hbl hbA hS hin d1012 ?_
                            refine lv_aload_n hx hb d1013 rfl (lv_at hl 0 rfl) ?_
                            refine lv_iload hx hb d1014 (lv_at hl 4 rfl) ?_
                            refine lv_iconst (v := 2) hx hb d1016 (by decide) ?_
                            refine lv_iadd hx hb d1017 ?_
                            obtain ⟨hin, hf⟩ := x_sl_el hf
                            refine va_sld hx hb hX hbl hbA hS hin d1018 ?_
                            refine lv_aload_n hx hb d1019 rfl (lv_at hl 3 rfl) ?_
                            refine x_thenLI hS hf (fun z0 e0 => x_runSX C0 hR hS me_L_exchange wt_L_exchange ml_L_155 (As := [.ref (xa E r1), .int (xs ((x4 + 1) : Int32).toNatClampNeg), .int (xs ((x4 + 2) : Int32).toNatClampNeg), .ref (xa E r3)]) (ct_L_exchange E l C0.2.2.2.2.2.2.2.1 _ r1 (xs ((x4 + 1) : Int32).toNatClampNeg) (xs ((x4 + 2) : Int32).toNatClampNeg) r3) rfl rfl hl.1 (Nat.le_of_ble_eq_true rfl) d1020 ⟨(Nat.le_of_ble_eq_true rfl), (Nat.le_of_ble_eq_true rfl)⟩ ⟨(by show _ ≤ 601024; omega), (by show _ ≤ 7293034; omega)⟩ e0) (fun h9 i64 H locs hR hS hf => ?_)
                            refine lv_istore (lv' := [(5, .int i64), (0, .ref b), (1, .ref (xa E r1)), (2, .ref (xa E r2)), (3, .ref (xa E r3)), (4, .int x4)]) hx hb d1023 hl (by decide) rfl (fun ls hl => ?_)
                            refine lv_aload_n hx hb d1025 rfl (lv_at hl 3 rfl) ?_
                            refine lv_aload_n hx hb d1026 rfl (lv_at hl 1 rfl) ?_
                            refine lv_iload hx hb d1027 (lv_at hl 5 rfl) ?_
                            refine lv_iconst (v := 1) hx hb d1029 (by decide) ?_
                            refine lv_iadd hx hb d1030 ?_
                            obtain ⟨hin, hf⟩ := x_sl_el hf
                            refine va_sld hx hb hX hbl hbA hS hin d1031 ?_
                            refine lv_aload_n hx hb d1032 rfl (lv_at hl 1 rfl) ?_
                            refine lv_iload hx hb d1033 (lv_at hl 5 rfl) ?_
                            refine lv_iconst (v := 2) hx hb d1035 (by decide) ?_
                            refine lv_iadd hx hb d1036 ?_
                            obtain ⟨hin, hf⟩ := x_sl_el hf
                            refine va_sld hx hb hX hbl hbA hS hin d1037 ?_
                            obtain ⟨hs9, hf⟩ := x_if hf
                            refine x_thenLI hS hf (fun z0 e0 => x_runV C0 hR hS me_X8_exchange wi_X8_exchange wl_X8_exchange ml_L_158 hs9 xcl_8 (As := [.int (xs ((x4 + 1) : Int32).toNatClampNeg), .int (xs ((x4 + 2) : Int32).toNatClampNeg)]) (ct_X8_exchange E l C0.2.2.2.2.2.2.2.1 _ r2 (xs ((x4 + 1) : Int32).toNatClampNeg) (xs ((x4 + 2) : Int32).toNatClampNeg)) rfl rfl hl.1 (Nat.le_of_ble_eq_true rfl) d1038 ⟨(Nat.le_of_ble_eq_true rfl), (Nat.le_of_ble_eq_true rfl)⟩ ⟨(by show _ ≤ 601024; omega), (by show _ ≤ 7293034; omega)⟩ e0) (fun h9 i66 H locs hR hS hf => ?_)
                            refine lv_istore (lv' := [(6, .int i66), (5, .int i64), (0, .ref b), (1, .ref (xa E r1)), (2, .ref (xa E r2)), (3, .ref (xa E r3)), (4, .int x4)]) hx hb d1041 hl (by decide) rfl (fun ls hl => ?_)
                            refine lv_aload_n hx hb d1043 rfl (lv_at hl 4 rfl) ?_
                            obtain ⟨hs9, hf⟩ := x_if hf
                            refine x_thenLI hS hf (fun z0 e0 => x_runV C0 hR hS me_X8_thrown wi_X8_thrown wl_X8_thrown ml_L_117 hs9 xcl_8 (As := []) (ct_X8_thrown E l C0.2.2.2.2.2.2.2.1 _ r2) rfl rfl hl.1 (Nat.le_of_ble_eq_true rfl) d1044 ⟨(Nat.le_of_ble_eq_true rfl), (Nat.le_of_ble_eq_true rfl)⟩ ⟨(by show _ ≤ 601024; omega), (by show _ ≤ 7293034; omega)⟩ e0) (fun h9 i68 H locs hR hS hf => ?_)
                            refine lv_iload hx hb d1047 (lv_at hl 1 rfl) ?_
                            refine lv_icmp_eq (tgt := 1054) hx hb d1049 (by decide) (fun q => ?_) (fun q => ?_)
                            · have hf := x_pos q hf
                              have h0 : x_by cL_law 1054 [21, 5, 154, 0, 15] := by unfold x_by; decide +kernel
                              obtain ⟨d1054, h0⟩ := de_iload h0
                              obtain ⟨d1056, h0⟩ := de_if_ne (15) (by decide) h0
                              refine lv_iload hx hb d1054 (lv_at hl 1 rfl) ?_
                              refine lv_if_ne (tgt := 1071) hx hb d1056 (by decide) (fun q => ?_) (fun q => ?_)
                              · have hf := x_neg q hf
                                exact s_L_law_b1071 hE C0 hX hbl hbA hk23 _ _ _ _ _ _ _ _ _ _ (by omega) (by omega) hR hS (lv_sub hl [2, 3, 4, 5, 6] rfl) hf
                              · have hf := x_pos q hf
                                have h0 : x_by cL_law 1059 [45, 3, 47, 21, 6, 133, 148, 153, 0, 5] := by unfold x_by; decide +kernel
                                obtain ⟨d1059, h0⟩ := de_aload_n3 h0
                                obtain ⟨d1060, h0⟩ := de_iconst_0 h0
                                obtain ⟨d1061, h0⟩ := de_laload h0
                                obtain ⟨d1062, h0⟩ := de_iload h0
                                obtain ⟨d1064, h0⟩ := de_i2l h0
                                obtain ⟨d1065, h0⟩ := de_lcmp h0
                                obtain ⟨d1066, h0⟩ := de_if_eq (5) (by decide) h0
                                refine lv_aload_n hx hb d1059 rfl (lv_at hl 5 rfl) ?_
                                refine lv_iconst (v := 0) hx hb d1060 (by decide) ?_
                                refine x_lald C0 hR hf d1061 (fun j70 hf => ?_)
                                refine lv_iload hx hb d1062 (lv_at hl 0 rfl) ?_
                                refine lv_i2l hx hb d1064 rfl ?_
                                refine W.lcmp hx hb d1065 ?_
                                refine lv_if_eq (tgt := 1071) hx hb d1066 (by decide) (fun q => ?_) (fun q => ?_)
                                · have hf := x_pos q hf
                                  exact s_L_law_b1071 hE C0 hX hbl hbA hk23 _ _ _ _ _ _ _ _ _ _ (by omega) (by omega) hR hS (lv_sub hl [2, 3, 4, 5, 6] rfl) hf
                                · have hf := x_neg q hf
                                  have h0 : x_by cL_law 1069 [3, 172] := by unfold x_by; decide +kernel
                                  obtain ⟨d1069, h0⟩ := de_iconst_0 h0
                                  obtain ⟨d1070, h0⟩ := de_ireturn h0
                                  refine lv_iconst (v := 0) hx hb d1069 (by decide) ?_
                                  cases hf
                            · have hf := x_neg q hf
                              have h0 : x_by cL_law 1052 [3, 172] := by unfold x_by; decide +kernel
                              obtain ⟨d1052, h0⟩ := de_iconst_0 h0
                              obtain ⟨d1053, h0⟩ := de_ireturn h0
                              refine lv_iconst (v := 0) hx hb d1052 (by decide) ?_
                              cases hf
                          · have hf := x_neg q11 hf
                            by_cases q12 : ((xs (x4 : Int32).toNatClampNeg) &&& 31) = 12
                            · have hf := x_pos q12 hf
                              refine lv_tableIn (tgt := 1074) hx hb d39 (by rw [q12]; decide) (by rw [q12]; decide) (by rw [q12]; first | done | rfl) (by decide) ?_
                              have h0 : x_by cL_law 1074 [43, 182, 0, 159, 44, 182, 0, 162, 159, 3, 220] := by unfold x_by; decide +kernel
                              obtain ⟨d1074, h0⟩ := de_aload_n1 h0
                              obtain ⟨d1075, h0⟩ := de_invokevirtual 159 (by decide) h0
                              obtain ⟨d1078, h0⟩ := de_aload_n2 h0
                              obtain ⟨d1079, h0⟩ := de_invokevirtual 162 (by decide) h0
                              obtain ⟨d1082, h0⟩ := de_icmp_eq (988) (by decide) h0
                              refine lv_aload_n hx hb d1074 rfl (lv_at hl 1 rfl) ?_
                              obtain ⟨hs9, hf⟩ := x_if hf
                              refine x_thenLI hS hf (fun z0 e0 => x_runV C0 hR hS me_X7_items wi_X7_items wl_X7_items ml_L_159 hs9 xcl_7 (As := []) (ct_X7_items E l C0.2.2.2.2.2.2.2.1 _ r1) rfl rfl hl.1 (Nat.le_of_ble_eq_true rfl) d1075 ⟨(Nat.le_of_ble_eq_true rfl), (Nat.le_of_ble_eq_true rfl)⟩ ⟨(by show _ ≤ 601024; omega), (by show _ ≤ 7293034; omega)⟩ e0) (fun h9 i71 H locs hR hS hf => ?_)
                              refine lv_aload_n hx hb d1078 rfl (lv_at hl 2 rfl) ?_
                              obtain ⟨hs9, hf⟩ := x_if hf
                              refine x_thenLI hS hf (fun z0 e0 => x_runV C0 hR hS me_X8_items wi_X8_items wl_X8_items ml_L_162 hs9 xcl_8 (As := []) (ct_X8_items E l C0.2.2.2.2.2.2.2.1 _ r2) rfl rfl hl.1 (Nat.le_of_ble_eq_true rfl) d1079 ⟨(Nat.le_of_ble_eq_true rfl), (Nat.le_of_ble_eq_true rfl)⟩ ⟨(by show _ ≤ 601024; omega), (by show _ ≤ 7293034; omega)⟩ e0) (fun h9 i73 H locs hR hS hf => ?_)
                              refine lv_icmp_eq (tgt := 2070) hx hb d1082 (by decide) (fun q => ?_) (fun q => ?_)
                              · have hf := x_pos q hf
                                exact s_L_law_b2070 hE C0 hX hbl hbA hk23 _ _ _ _ _ _ _ _ _ _ (by omega) (by omega) hR hS (lv_sub hl [0, 1, 2, 3, 4] rfl) hf
                              · have hf := x_neg q hf
                                have h0 : x_by cL_law 1085 [3, 172] := by unfold x_by; decide +kernel
                                obtain ⟨d1085, h0⟩ := de_iconst_0 h0
                                obtain ⟨d1086, h0⟩ := de_ireturn h0
                                refine lv_iconst (v := 0) hx hb d1085 (by decide) ?_
                                cases hf
                            · have hf := x_neg q12 hf
                              by_cases q13 : ((xs (x4 : Int32).toNatClampNeg) &&& 31) = 13
                              · have hf := x_pos q13 hf
                                refine lv_tableIn (tgt := 1087) hx hb d39 (by rw [q13]; decide) (by rw [q13]; decide) (by rw [q13]; first | done | rfl) (by decide) ?_
                                have h0 : x_by cL_law 1087 [43, 42, 21, 4, 4, 96, 46, 45, 184, 0, 163, 54, 5, 44, 42, 21, 4, 4, 96, 46, 182, 0, 165, 54, 6, 44, 182, 0, 117, 21, 5, 159, 0, 5] := by unfold x_by; decide +kernel
                                obtain ⟨d1087, h0⟩ := de_aload_n1 h0
                                obtain ⟨d1088, h0⟩ := de_aload_n0 h0
                                obtain ⟨d1089, h0⟩ := de_iload h0
                                obtain ⟨d1091, h0⟩ := de_iconst_1 h0
                                obtain ⟨d1092, h0⟩ := de_iadd h0
                                obtain ⟨d1093, h0⟩ := de_iaload h0
                                obtain ⟨d1094, h0⟩ := de_aload_n3 h0
                                obtain ⟨d1095, h0⟩ := de_invokestatic 163 (by decide) h0
                                obtain ⟨d1098, h0⟩ := de_istore h0
                                obtain ⟨d1100, h0⟩ := de_aload_n2 h0
                                obtain ⟨d1101, h0⟩ := de_aload_n0 h0
                                obtain ⟨d1102, h0⟩ := de_iload h0
                                obtain ⟨d1104, h0⟩ := de_iconst_1 h0
                                obtain ⟨d1105, h0⟩ := de_iadd h0
                                obtain ⟨d1106, h0⟩ := de_iaload h0
                                obtain ⟨d1107, h0⟩ := de_invokevirtual 165 (by decide) h0
                                obtain ⟨d1110, h0⟩ := de_istore h0
                                obtain ⟨d1112, h0⟩ := de_aload_n2 h0
                                obtain ⟨d1113, h0⟩ := de_invokevirtual 117 (by decide) h0
                                obtain ⟨d1116, h0⟩ := de_iload h0
                                obtain ⟨d1118, h0⟩ := de_icmp_eq (5) (by decide) h0
                                refine lv_aload_n hx hb d1087 rfl (lv_at hl 1 rfl) ?_
                                refine lv_aload_n hx hb d1088 rfl (lv_at hl 0 rfl) ?_
                                refine lv_iload hx hb d1089 (lv_at hl 4 rfl) ?_
                                refine lv_iconst (v := 1) hx hb d1091 (by decide) ?_
                                refine lv_iadd hx hb d1092 ?_
                                obtain ⟨hin, hf⟩ := x_sl_el hf
                                refine va_sld hx hb hX hbl hbA hS hin d1093 ?_
                                refine lv_aload_n hx hb d1094 rfl (lv_at hl 3 rfl) ?_
                                refine x_thenLI hS hf (fun z0 e0 => x_runSX C0 hR hS me_L_tracks wt_L_tracks ml_L_163 (As := [.ref (xa E r1), .int (xs ((x4 + 1) : Int32).toNatClampNeg), .ref (xa E r3)]) (ct_L_tracks E l C0.2.2.2.2.2.2.2.1 _ r1 (xs ((x4 + 1) : Int32).toNatClampNeg) r3) rfl rfl hl.1 (Nat.le_of_ble_eq_true rfl) d1095 ⟨(Nat.le_of_ble_eq_true rfl), (Nat.le_of_ble_eq_true rfl)⟩ ⟨(by show _ ≤ 601024; omega), (by show _ ≤ 7293034; omega)⟩ e0) (fun h9 i75 H locs hR hS hf => ?_)
                                refine lv_istore (lv' := [(5, .int i75), (0, .ref b), (1, .ref (xa E r1)), (2, .ref (xa E r2)), (3, .ref (xa E r3)), (4, .int x4)]) hx hb d1098 hl (by decide) rfl (fun ls hl => ?_)
                                refine lv_aload_n hx hb d1100 rfl (lv_at hl 3 rfl) ?_
                                refine lv_aload_n hx hb d1101 rfl (lv_at hl 1 rfl) ?_
                                refine lv_iload hx hb d1102 (lv_at hl 5 rfl) ?_
                                refine lv_iconst (v := 1) hx hb d1104 (by decide) ?_
                                refine lv_iadd hx hb d1105 ?_
                                obtain ⟨hin, hf⟩ := x_sl_el hf
                                refine va_sld hx hb hX hbl hbA hS hin d1106 ?_
                                obtain ⟨hs9, hf⟩ := x_if hf
                                refine x_thenLI hS hf (fun z0 e0 => x_runV C0 hR hS me_X8_tracks wi_X8_tracks wl_X8_tracks ml_L_165 hs9 xcl_8 (As := [.int (xs ((x4 + 1) : Int32).toNatClampNeg)]) (ct_X8_tracks E l C0.2.2.2.2.2.2.2.1 _ r2 (xs ((x4 + 1) : Int32).toNatClampNeg)) rfl rfl hl.1 (Nat.le_of_ble_eq_true rfl) d1107 ⟨(Nat.le_of_ble_eq_true rfl), (Nat.le_of_ble_eq_true rfl)⟩ ⟨(by show _ ≤ 601024; omega), (by show _ ≤ 7293034; omega)⟩ e0) (fun h9 i77 H locs hR hS hf => ?_)
                                refine lv_istore (lv' := [(6, .int i77), (5, .int i75), (0, .ref b), (1, .ref (xa E r1)), (2, .ref (xa E r2)), (3, .ref (xa E r3)), (4, .int x4)]) hx hb d1110 hl (by decide) rfl (fun ls hl => ?_)
                                refine lv_aload_n hx hb d1112 rfl (lv_at hl 4 rfl) ?_
                                obtain ⟨hs9, hf⟩ := x_if hf
                                refine x_thenLI hS hf (fun z0 e0 => x_runV C0 hR hS me_X8_thrown wi_X8_thrown wl_X8_thrown ml_L_117 hs9 xcl_8 (As := []) (ct_X8_thrown E l C0.2.2.2.2.2.2.2.1 _ r2) rfl rfl hl.1 (Nat.le_of_ble_eq_true rfl) d1113 ⟨(Nat.le_of_ble_eq_true rfl), (Nat.le_of_ble_eq_true rfl)⟩ ⟨(by show _ ≤ 601024; omega), (by show _ ≤ 7293034; omega)⟩ e0) (fun h9 i79 H locs hR hS hf => ?_)
                                refine lv_iload hx hb d1116 (lv_at hl 1 rfl) ?_
                                refine lv_icmp_eq (tgt := 1123) hx hb d1118 (by decide) (fun q => ?_) (fun q => ?_)
                                · have hf := x_pos q hf
                                  have h0 : x_by cL_law 1123 [21, 5, 154, 0, 15] := by unfold x_by; decide +kernel
                                  obtain ⟨d1123, h0⟩ := de_iload h0
                                  obtain ⟨d1125, h0⟩ := de_if_ne (15) (by decide) h0
                                  refine lv_iload hx hb d1123 (lv_at hl 1 rfl) ?_
                                  refine lv_if_ne (tgt := 1140) hx hb d1125 (by decide) (fun q => ?_) (fun q => ?_)
                                  · have hf := x_neg q hf
                                    exact s_L_law_b1140 hE C0 hX hbl hbA hk23 _ _ _ _ _ _ _ _ _ _ (by omega) (by omega) hR hS (lv_sub hl [2, 3, 4, 5, 6] rfl) hf
                                  · have hf := x_pos q hf
                                    have h0 : x_by cL_law 1128 [45, 3, 47, 21, 6, 133, 148, 153, 0, 5] := by unfold x_by; decide +kernel
                                    obtain ⟨d1128, h0⟩ := de_aload_n3 h0
                                    obtain ⟨d1129, h0⟩ := de_iconst_0 h0
                                    obtain ⟨d1130, h0⟩ := de_laload h0
                                    obtain ⟨d1131, h0⟩ := de_iload h0
                                    obtain ⟨d1133, h0⟩ := de_i2l h0
                                    obtain ⟨d1134, h0⟩ := de_lcmp h0
                                    obtain ⟨d1135, h0⟩ := de_if_eq (5) (by decide) h0
                                    refine lv_aload_n hx hb d1128 rfl (lv_at hl 5 rfl) ?_
                                    refine lv_iconst (v := 0) hx hb d1129 (by decide) ?_
                                    refine x_lald C0 hR hf d1130 (fun j81 hf => ?_)
                                    refine lv_iload hx hb d1131 (lv_at hl 0 rfl) ?_
                                    refine lv_i2l hx hb d1133 rfl ?_
                                    refine W.lcmp hx hb d1134 ?_
                                    refine lv_if_eq (tgt := 1140) hx hb d1135 (by decide) (fun q => ?_) (fun q => ?_)
                                    · have hf := x_pos q hf
                                      exact s_L_law_b1140 hE C0 hX hbl hbA hk23 _ _ _ _ _ _ _ _ _ _ (by omega) (by omega) hR hS (lv_sub hl [2, 3, 4, 5, 6] rfl) hf
                                    · have hf := x_neg q hf
                                      have h0 : x_by cL_law 1138 [3, 172] := by unfold x_by; decide +kernel
                                      obtain ⟨d1138, h0⟩ := de_iconst_0 h0
                                      obtain ⟨d1139, h0⟩ := de_ireturn h0
                                      refine lv_iconst (v := 0) hx hb d1138 (by decide) ?_
                                      cases hf
                                · have hf := x_neg q hf
                                  have h0 : x_by cL_law 1121 [3, 172] := by unfold x_by; decide +kernel
                                  obtain ⟨d1121, h0⟩ := de_iconst_0 h0
                                  obtain ⟨d1122, h0⟩ := de_ireturn h0
                                  refine lv_iconst (v := 0) hx hb d1121 (by decide) ?_
                                  cases hf
                              · have hf := x_neg q13 hf
                                by_cases q14 : ((xs (x4 : Int32).toNatClampNeg) &&& 31) = 14
                                · have hf := x_pos q14 hf
                                  refine lv_tableIn (tgt := 1143) hx hb d39 (by rw [q14]; decide) (by rw [q14]; decide) (by rw [q14]; first | done | rfl) (by decide) ?_
                                  have h0 : x_by cL_law 1143 [43, 42, 21, 4, 4, 96, 46, 42, 21, 4, 5, 96, 46, 45, 184, 0, 166, 54, 5, 44, 42, 21, 4, 4, 96, 46, 42, 21, 4, 5, 96, 46, 182, 0, 168, 54, 6, 44, 182, 0, 117, 21, 5, 159, 0, 5] := by unfold x_by; decide +kernel
                                  obtain ⟨d1143, h0⟩ := de_aload_n1 h0
                                  obtain ⟨d1144, h0⟩ := de_aload_n0 h0
                                  obtain ⟨d1145, h0⟩ := de_iload h0
                                  obtain ⟨d1147, h0⟩ := de_iconst_1 h0
                                  obtain ⟨d1148, h0⟩ := de_iadd h0
                                  obtain ⟨d1149, h0⟩ := de_iaload h0
                                  obtain ⟨d1150, h0⟩ := de_aload_n0 h0
                                  obtain ⟨d1151, h0⟩ := de_iload h0
                                  obtain ⟨d1153, h0⟩ := de_iconst_2 h0
                                  obtain ⟨d1154, h0⟩ := de_iadd h0
                                  obtain ⟨d1155, h0⟩ := de_iaload h0
                                  obtain ⟨d1156, h0⟩ := de_aload_n3 h0
                                  obtain ⟨d1157, h0⟩ := de_invokestatic 166 (by decide) h0
                                  obtain ⟨d1160, h0⟩ := de_istore h0
                                  obtain ⟨d1162, h0⟩ := de_aload_n2 h0
                                  obtain ⟨d1163, h0⟩ := de_aload_n0 h0
                                  obtain ⟨d1164, h0⟩ := de_iload h0
                                  obtain ⟨d1166, h0⟩ := de_iconst_1 h0
                                  obtain ⟨d1167, h0⟩ := de_iadd h0
                                  obtain ⟨d1168, h0⟩ := de_iaload h0
                                  obtain ⟨d1169, h0⟩ := de_aload_n0 h0
                                  obtain ⟨d1170, h0⟩ := de_iload h0
                                  obtain ⟨d1172, h0⟩ := de_iconst_2 h0
                                  obtain ⟨d1173, h0⟩ := de_iadd h0
                                  obtain ⟨d1174, h0⟩ := de_iaload h0
                                  obtain ⟨d1175, h0⟩ := de_invokevirtual 168 (by decide) h0
                                  obtain ⟨d1178, h0⟩ := de_istore h0
                                  obtain ⟨d1180, h0⟩ := de_aload_n2 h0
                                  obtain ⟨d1181, h0⟩ := de_invokevirtual 117 (by decide) h0
                                  obtain ⟨d1184, h0⟩ := de_iload h0
                                  obtain ⟨d1186, h0⟩ := de_icmp_eq (5) (by decide) h0
                                  refine lv_aload_n hx hb d1143 rfl (lv_at hl 1 rfl) ?_
                                  refine lv_aload_n hx hb d1144 rfl (lv_at hl 0 rfl) ?_
                                  refine lv_iload hx hb d1145 (lv_at hl 4 rfl) ?_
                                  refine lv_iconst (v := 1) hx hb d1147 (by decide) ?_
                                  refine lv_iadd hx hb d1148 ?_
                                  obtain ⟨hin, hf⟩ := x_sl_el hf
                                  refine va_sld hx hb hX hbl hbA hS hin d1149 ?_
                                  refine lv_aload_n hx hb d1150 rfl (lv_at hl 0 rfl) ?_
                                  refine lv_iload hx hb d1151 (lv_at hl 4 rfl) ?_
                                  refine lv_iconst (v := 2) hx hb d1153 (by decide) ?_
                                  refine lv_iadd hx hb d1154 ?_
                                  obtain ⟨hin, hf⟩ := x_sl_el hf
                                  refine va_sld hx hb hX hbl hbA hS hin d1155 ?_
                                  refine lv_aload_n hx hb d1156 rfl (lv_at hl 3 rfl) ?_
                                  refine x_thenLI hS hf (fun z0 e0 => x_runSX C0 hR hS me_L_startOf wt_L_startOf ml_L_166 (As := [.ref (xa E r1), .int (xs ((x4 + 1) : Int32).toNatClampNeg), .int (xs ((x4 + 2) : Int32).toNatClampNeg), .ref (xa E r3)]) (ct_L_startOf E l C0.2.2.2.2.2.2.2.1 _ r1 (xs ((x4 + 1) : Int32).toNatClampNeg) (xs ((x4 + 2) : Int32).toNatClampNeg) r3) rfl rfl hl.1 (Nat.le_of_ble_eq_true rfl) d1157 ⟨(Nat.le_of_ble_eq_true rfl), (Nat.le_of_ble_eq_true rfl)⟩ ⟨(by show _ ≤ 601024; omega), (by show _ ≤ 7293034; omega)⟩ e0) (fun h9 i82 H locs hR hS hf => ?_)
                                  refine lv_istore (lv' := [(5, .int i82), (0, .ref b), (1, .ref (xa E r1)), (2, .ref (xa E r2)), (3, .ref (xa E r3)), (4, .int x4)]) hx hb d1160 hl (by decide) rfl (fun ls hl => ?_)
                                  refine lv_aload_n hx hb d1162 rfl (lv_at hl 3 rfl) ?_
                                  refine lv_aload_n hx hb d1163 rfl (lv_at hl 1 rfl) ?_
                                  refine lv_iload hx hb d1164 (lv_at hl 5 rfl) ?_
                                  refine lv_iconst (v := 1) hx hb d1166 (by decide) ?_
                                  refine lv_iadd hx hb d1167 ?_
                                  obtain ⟨hin, hf⟩ := x_sl_el hf
                                  refine va_sld hx hb hX hbl hbA hS hin d1168 ?_
                                  refine lv_aload_n hx hb d1169 rfl (lv_at hl 1 rfl) ?_
                                  refine lv_iload hx hb d1170 (lv_at hl 5 rfl) ?_
                                  refine lv_iconst (v := 2) hx hb d1172 (by decide) ?_
                                  refine lv_iadd hx hb d1173 ?_
                                  obtain ⟨hin, hf⟩ := x_sl_el hf
                                  refine va_sld hx hb hX hbl hbA hS hin d1174 ?_
                                  obtain ⟨hs9, hf⟩ := x_if hf
                                  refine x_thenLI hS hf (fun z0 e0 => x_runV C0 hR hS me_X8_startOf wi_X8_startOf wl_X8_startOf ml_L_168 hs9 xcl_8 (As := [.int (xs ((x4 + 1) : Int32).toNatClampNeg), .int (xs ((x4 + 2) : Int32).toNatClampNeg)]) (ct_X8_startOf E l C0.2.2.2.2.2.2.2.1 _ r2 (xs ((x4 + 1) : Int32).toNatClampNeg) (xs ((x4 + 2) : Int32).toNatClampNeg)) rfl rfl hl.1 (Nat.le_of_ble_eq_true rfl) d1175 ⟨(Nat.le_of_ble_eq_true rfl), (Nat.le_of_ble_eq_true rfl)⟩ ⟨(by show _ ≤ 601024; omega), (by show _ ≤ 7293034; omega)⟩ e0) (fun h9 i84 H locs hR hS hf => ?_)
                                  refine lv_istore (lv' := [(6, .int i84), (5, .int i82), (0, .ref b), (1, .ref (xa E r1)), (2, .ref (xa E r2)), (3, .ref (xa E r3)), (4, .int x4)]) hx hb d1178 hl (by decide) rfl (fun ls hl => ?_)
                                  refine lv_aload_n hx hb d1180 rfl (lv_at hl 4 rfl) ?_
                                  obtain ⟨hs9, hf⟩ := x_if hf
                                  refine x_thenLI hS hf (fun z0 e0 => x_runV C0 hR hS me_X8_thrown wi_X8_thrown wl_X8_thrown ml_L_117 hs9 xcl_8 (As := []) (ct_X8_thrown E l C0.2.2.2.2.2.2.2.1 _ r2) rfl rfl hl.1 (Nat.le_of_ble_eq_true rfl) d1181 ⟨(Nat.le_of_ble_eq_true rfl), (Nat.le_of_ble_eq_true rfl)⟩ ⟨(by show _ ≤ 601024; omega), (by show _ ≤ 7293034; omega)⟩ e0) (fun h9 i86 H locs hR hS hf => ?_)
                                  refine lv_iload hx hb d1184 (lv_at hl 1 rfl) ?_
                                  refine lv_icmp_eq (tgt := 1191) hx hb d1186 (by decide) (fun q => ?_) (fun q => ?_)
                                  · have hf := x_pos q hf
                                    have h0 : x_by cL_law 1191 [21, 5, 154, 0, 15] := by unfold x_by; decide +kernel
                                    obtain ⟨d1191, h0⟩ := de_iload h0
                                    obtain ⟨d1193, h0⟩ := de_if_ne (15) (by decide) h0
                                    refine lv_iload hx hb d1191 (lv_at hl 1 rfl) ?_
                                    refine lv_if_ne (tgt := 1208) hx hb d1193 (by decide) (fun q => ?_) (fun q => ?_)
                                    · have hf := x_neg q hf
                                      exact s_L_law_b1208 hE C0 hX hbl hbA hk23 _ _ _ _ _ _ _ _ _ _ (by omega) (by omega) hR hS (lv_sub hl [2, 3, 4, 5, 6] rfl) hf
                                    · have hf := x_pos q hf
                                      have h0 : x_by cL_law 1196 [45, 3, 47, 21, 6, 133, 148, 153, 0, 5] := by unfold x_by; decide +kernel
                                      obtain ⟨d1196, h0⟩ := de_aload_n3 h0
                                      obtain ⟨d1197, h0⟩ := de_iconst_0 h0
                                      obtain ⟨d1198, h0⟩ := de_laload h0
                                      obtain ⟨d1199, h0⟩ := de_iload h0
                                      obtain ⟨d1201, h0⟩ := de_i2l h0
                                      obtain ⟨d1202, h0⟩ := de_lcmp h0
                                      obtain ⟨d1203, h0⟩ := de_if_eq (5) (by decide) h0
                                      refine lv_aload_n hx hb d1196 rfl (lv_at hl 5 rfl) ?_
                                      refine lv_iconst (v := 0) hx hb d1197 (by decide) ?_
                                      refine x_lald C0 hR hf d1198 (fun j88 hf => ?_)
                                      refine lv_iload hx hb d1199 (lv_at hl 0 rfl) ?_
                                      refine lv_i2l hx hb d1201 rfl ?_
                                      refine W.lcmp hx hb d1202 ?_
                                      refine lv_if_eq (tgt := 1208) hx hb d1203 (by decide) (fun q => ?_) (fun q => ?_)
                                      · have hf := x_pos q hf
                                        exact s_L_law_b1208 hE C0 hX hbl hbA hk23 _ _ _ _ _ _ _ _ _ _ (by omega) (by omega) hR hS (lv_sub hl [2, 3, 4, 5, 6] rfl) hf
                                      · have hf := x_neg q hf
                                        have h0 : x_by cL_law 1206 [3, 172] := by unfold x_by; decide +kernel
                                        obtain ⟨d1206, h0⟩ := de_iconst_0 h0
                                        obtain ⟨d1207, h0⟩ := de_ireturn h0
                                        refine lv_iconst (v := 0) hx hb d1206 (by decide) ?_
                                        cases hf
                                  · have hf := x_neg q hf
                                    have h0 : x_by cL_law 1189 [3, 172] := by unfold x_by; decide +kernel
                                    obtain ⟨d1189, h0⟩ := de_iconst_0 h0
                                    obtain ⟨d1190, h0⟩ := de_ireturn h0
                                    refine lv_iconst (v := 0) hx hb d1189 (by decide) ?_
                                    cases hf
                                · have hf := x_neg q14 hf
                                  by_cases q15 : ((xs (x4 : Int32).toNatClampNeg) &&& 31) = 15
                                  · have hf := x_pos q15 hf
                                    refine lv_tableIn (tgt := 1211) hx hb d39 (by rw [q15]; decide) (by rw [q15]; decide) (by rw [q15]; first | done | rfl) (by decide) ?_
                                    have h0 : x_by cL_law 1211 [43, 42, 21, 4, 4, 96, 46, 42, 21, 4, 5, 96, 46, 45, 184, 0, 169, 54, 5, 44, 42, 21, 4, 4, 96, 46, 42, 21, 4, 5, 96, 46, 182, 0, 171, 54, 6, 44, 182, 0, 117, 21, 5, 159, 0, 5] := by unfold x_by; decide +kernel
                                    obtain ⟨d1211, h0⟩ := de_aload_n1 h0
                                    obtain ⟨d1212, h0⟩ := de_aload_n0 h0
                                    obtain ⟨d1213, h0⟩ := de_iload h0
                                    obtain ⟨d1215, h0⟩ := de_iconst_1 h0
                                    obtain ⟨d1216, h0⟩ := de_iadd h0
                                    obtain ⟨d1217, h0⟩ := de_iaload h0
                                    obtain ⟨d1218, h0⟩ := de_aload_n0 h0
                                    obtain ⟨d1219, h0⟩ := de_iload h0
                                    obtain ⟨d1221, h0⟩ := de_iconst_2 h0
                                    obtain ⟨d1222, h0⟩ := de_iadd h0
                                    obtain ⟨d1223, h0⟩ := de_iaload h0
                                    obtain ⟨d1224, h0⟩ := de_aload_n3 h0
                                    obtain ⟨d1225, h0⟩ := de_invokestatic 169 (by decide) h0
                                    obtain ⟨d1228, h0⟩ := de_istore h0
                                    obtain ⟨d1230, h0⟩ := de_aload_n2 h0
                                    obtain ⟨d1231, h0⟩ := de_aload_n0 h0
                                    obtain ⟨d1232, h0⟩ := de_iload h0
                                    obtain ⟨d1234, h0⟩ := de_iconst_1 h0
                                    obtain ⟨d1235, h0⟩ := de_iadd h0
                                    obtain ⟨d1236, h0⟩ := de_iaload h0
                                    obtain ⟨d1237, h0⟩ := de_aload_n0 h0
                                    obtain ⟨d1238, h0⟩ := de_iload h0
                                    obtain ⟨d1240, h0⟩ := de_iconst_2 h0
                                    obtain ⟨d1241, h0⟩ := de_iadd h0
                                    obtain ⟨d1242, h0⟩ := de_iaload h0
                                    obtain ⟨d1243, h0⟩ := de_invokevirtual 171 (by decide) h0
                                    obtain ⟨d1246, h0⟩ := de_istore h0
                                    obtain ⟨d1248, h0⟩ := de_aload_n2 h0
                                    obtain ⟨d1249, h0⟩ := de_invokevirtual 117 (by decide) h0
                                    obtain ⟨d1252, h0⟩ := de_iload h0
                                    obtain ⟨d1254, h0⟩ := de_icmp_eq (5) (by decide) h0
                                    refine lv_aload_n hx hb d1211 rfl (lv_at hl 1 rfl) ?_
                                    refine lv_aload_n hx hb d1212 rfl (lv_at hl 0 rfl) ?_
                                    refine lv_iload hx hb d1213 (lv_at hl 4 rfl) ?_
                                    refine lv_iconst (v := 1) hx hb d1215 (by decide) ?_
                                    refine lv_iadd hx hb d1216 ?_
                                    obtain ⟨hin, hf⟩ := x_sl_el hf
                                    refine va_sld hx hb hX hbl hbA hS hin d1217 ?_
                                    refine lv_aload_n hx hb d1218 rfl (lv_at hl 0 rfl) ?_
                                    refine lv_iload hx hb d1219 (lv_at hl 4 rfl) ?_
                                    refine lv_iconst (v := 2) hx hb d1221 (by decide) ?_
                                    refine lv_iadd hx hb d1222 ?_
                                    obtain ⟨hin, hf⟩ := x_sl_el hf
                                    refine va_sld hx hb hX hbl hbA hS hin d1223 ?_
                                    refine lv_aload_n hx hb d1224 rfl (lv_at hl 3 rfl) ?_
                                    refine x_thenLI hS hf (fun z0 e0 => x_runSX C0 hR hS me_L_itemIn wt_L_itemIn ml_L_169 (As := [.ref (xa E r1), .int (xs ((x4 + 1) : Int32).toNatClampNeg), .int (xs ((x4 + 2) : Int32).toNatClampNeg), .ref (xa E r3)]) (ct_L_itemIn E l C0.2.2.2.2.2.2.2.1 _ r1 (xs ((x4 + 1) : Int32).toNatClampNeg) (xs ((x4 + 2) : Int32).toNatClampNeg) r3) rfl rfl hl.1 (Nat.le_of_ble_eq_true rfl) d1225 ⟨(Nat.le_of_ble_eq_true rfl), (Nat.le_of_ble_eq_true rfl)⟩ ⟨(by show _ ≤ 601024; omega), (by show _ ≤ 7293034; omega)⟩ e0) (fun h9 i89 H locs hR hS hf => ?_)
                                    refine lv_istore (lv' := [(5, .int i89), (0, .ref b), (1, .ref (xa E r1)), (2, .ref (xa E r2)), (3, .ref (xa E r3)), (4, .int x4)]) hx hb d1228 hl (by decide) rfl (fun ls hl => ?_)
                                    refine lv_aload_n hx hb d1230 rfl (lv_at hl 3 rfl) ?_
                                    refine lv_aload_n hx hb d1231 rfl (lv_at hl 1 rfl) ?_
                                    refine lv_iload hx hb d1232 (lv_at hl 5 rfl) ?_
                                    refine lv_iconst (v := 1) hx hb d1234 (by decide) ?_
                                    refine lv_iadd hx hb d1235 ?_
                                    obtain ⟨hin, hf⟩ := x_sl_el hf
                                    refine va_sld hx hb hX hbl hbA hS hin d1236 ?_
                                    refine lv_aload_n hx hb d1237 rfl (lv_at hl 1 rfl) ?_
                                    refine lv_iload hx hb d1238 (lv_at hl 5 rfl) ?_
                                    refine lv_iconst (v := 2) hx hb d1240 (by decide) ?_
                                    refine lv_iadd hx hb d1241 ?_
                                    obtain ⟨hin, hf⟩ := x_sl_el hf
                                    refine va_sld hx hb hX hbl hbA hS hin d1242 ?_
                                    obtain ⟨hs9, hf⟩ := x_if hf
                                    refine x_thenLI hS hf (fun z0 e0 => x_runV C0 hR hS me_X8_itemIn wi_X8_itemIn wl_X8_itemIn ml_L_171 hs9 xcl_8 (As := [.int (xs ((x4 + 1) : Int32).toNatClampNeg), .int (xs ((x4 + 2) : Int32).toNatClampNeg)]) (ct_X8_itemIn E l C0.2.2.2.2.2.2.2.1 _ r2 (xs ((x4 + 1) : Int32).toNatClampNeg) (xs ((x4 + 2) : Int32).toNatClampNeg)) rfl rfl hl.1 (Nat.le_of_ble_eq_true rfl) d1243 ⟨(Nat.le_of_ble_eq_true rfl), (Nat.le_of_ble_eq_true rfl)⟩ ⟨(by show _ ≤ 601024; omega), (by show _ ≤ 7293034; omega)⟩ e0) (fun h9 i91 H locs hR hS hf => ?_)
                                    refine lv_istore (lv' := [(6, .int i91), (5, .int i89), (0, .ref b), (1, .ref (xa E r1)), (2, .ref (xa E r2)), (3, .ref (xa E r3)), (4, .int x4)]) hx hb d1246 hl (by decide) rfl (fun ls hl => ?_)
                                    refine lv_aload_n hx hb d1248 rfl (lv_at hl 4 rfl) ?_
                                    obtain ⟨hs9, hf⟩ := x_if hf
                                    refine x_thenLI hS hf (fun z0 e0 => x_runV C0 hR hS me_X8_thrown wi_X8_thrown wl_X8_thrown ml_L_117 hs9 xcl_8 (As := []) (ct_X8_thrown E l C0.2.2.2.2.2.2.2.1 _ r2) rfl rfl hl.1 (Nat.le_of_ble_eq_true rfl) d1249 ⟨(Nat.le_of_ble_eq_true rfl), (Nat.le_of_ble_eq_true rfl)⟩ ⟨(by show _ ≤ 601024; omega), (by show _ ≤ 7293034; omega)⟩ e0) (fun h9 i93 H locs hR hS hf => ?_)
                                    refine lv_iload hx hb d1252 (lv_at hl 1 rfl) ?_
                                    refine lv_icmp_eq (tgt := 1259) hx hb d1254 (by decide) (fun q => ?_) (fun q => ?_)
                                    · have hf := x_pos q hf
                                      have h0 : x_by cL_law 1259 [21, 5, 154, 0, 15] := by unfold x_by; decide +kernel
                                      obtain ⟨d1259, h0⟩ := de_iload h0
                                      obtain ⟨d1261, h0⟩ := de_if_ne (15) (by decide) h0
                                      refine lv_iload hx hb d1259 (lv_at hl 1 rfl) ?_
                                      refine lv_if_ne (tgt := 1276) hx hb d1261 (by decide) (fun q => ?_) (fun q => ?_)
                                      · have hf := x_neg q hf
                                        exact s_L_law_b1276 hE C0 hX hbl hbA hk23 _ _ _ _ _ _ _ _ _ _ (by omega) (by omega) hR hS (lv_sub hl [2, 3, 4, 5, 6] rfl) hf
                                      · have hf := x_pos q hf
                                        have h0 : x_by cL_law 1264 [45, 3, 47, 21, 6, 133, 148, 153, 0, 5] := by unfold x_by; decide +kernel
                                        obtain ⟨d1264, h0⟩ := de_aload_n3 h0
                                        obtain ⟨d1265, h0⟩ := de_iconst_0 h0
                                        obtain ⟨d1266, h0⟩ := de_laload h0
                                        obtain ⟨d1267, h0⟩ := de_iload h0
                                        obtain ⟨d1269, h0⟩ := de_i2l h0
                                        obtain ⟨d1270, h0⟩ := de_lcmp h0
                                        obtain ⟨d1271, h0⟩ := de_if_eq (5) (by decide) h0
                                        refine lv_aload_n hx hb d1264 rfl (lv_at hl 5 rfl) ?_
                                        refine lv_iconst (v := 0) hx hb d1265 (by decide) ?_
                                        refine x_lald C0 hR hf d1266 (fun j95 hf => ?_)
                                        refine lv_iload hx hb d1267 (lv_at hl 0 rfl) ?_
                                        refine lv_i2l hx hb d1269 rfl ?_
                                        refine W.lcmp hx hb d1270 ?_
                                        refine lv_if_eq (tgt := 1276) hx hb d1271 (by decide) (fun q => ?_) (fun q => ?_)
                                        · have hf := x_pos q hf
                                          exact s_L_law_b1276 hE C0 hX hbl hbA hk23 _ _ _ _ _ _ _ _ _ _ (by omega) (by omega) hR hS (lv_sub hl [2, 3, 4, 5, 6] rfl) hf
                                        · have hf := x_neg q hf
                                          have h0 : x_by cL_law 1274 [3, 172] := by unfold x_by; decide +kernel
                                          obtain ⟨d1274, h0⟩ := de_iconst_0 h0
                                          obtain ⟨d1275, h0⟩ := de_ireturn h0
                                          refine lv_iconst (v := 0) hx hb d1274 (by decide) ?_
                                          cases hf
                                    · have hf := x_neg q hf
                                      have h0 : x_by cL_law 1257 [3, 172] := by unfold x_by; decide +kernel
                                      obtain ⟨d1257, h0⟩ := de_iconst_0 h0
                                      obtain ⟨d1258, h0⟩ := de_ireturn h0
                                      refine lv_iconst (v := 0) hx hb d1257 (by decide) ?_
                                      cases hf
                                  · have hf := x_neg q15 hf
                                    by_cases q16 : ((xs (x4 : Int32).toNatClampNeg) &&& 31) = 16
                                    · have hf := x_pos q16 hf
                                      refine lv_tableIn (tgt := 1279) hx hb d39 (by rw [q16]; decide) (by rw [q16]; decide) (by rw [q16]; first | done | rfl) (by decide) ?_
                                      have h0 : x_by cL_law 1279 [43, 42, 21, 4, 4, 96, 46, 45, 184, 0, 172, 54, 5, 44, 42, 21, 4, 4, 96, 46, 182, 0, 174, 54, 6, 44, 182, 0, 117, 21, 5, 159, 0, 5] := by unfold x_by; decide +kernel
                                      obtain ⟨d1279, h0⟩ := de_aload_n1 h0
                                      obtain ⟨d1280, h0⟩ := de_aload_n0 h0
                                      obtain ⟨d1281, h0⟩ := de_iload h0
                                      obtain ⟨d1283, h0⟩ := de_iconst_1 h0
                                      obtain ⟨d1284, h0⟩ := de_iadd h0
                                      obtain ⟨d1285, h0⟩ := de_iaload h0
                                      obtain ⟨d1286, h0⟩ := de_aload_n3 h0
                                      obtain ⟨d1287, h0⟩ := de_invokestatic 172 (by decide) h0
                                      obtain ⟨d1290, h0⟩ := de_istore h0
                                      obtain ⟨d1292, h0⟩ := de_aload_n2 h0
                                      obtain ⟨d1293, h0⟩ := de_aload_n0 h0
                                      obtain ⟨d1294, h0⟩ := de_iload h0
                                      obtain ⟨d1296, h0⟩ := de_iconst_1 h0
                                      obtain ⟨d1297, h0⟩ := de_iadd h0
                                      obtain ⟨d1298, h0⟩ := de_iaload h0
                                      obtain ⟨d1299, h0⟩ := de_invokevirtual 174 (by decide) h0
                                      obtain ⟨d1302, h0⟩ := de_istore h0
                                      obtain ⟨d1304, h0⟩ := de_aload_n2 h0
                                      obtain ⟨d1305, h0⟩ := de_invokevirtual 117 (by decide) h0
                                      obtain ⟨d1308, h0⟩ := de_iload h0
                                      obtain ⟨d1310, h0⟩ := de_icmp_eq (5) (by decide) h0
                                      refine lv_aload_n hx hb d1279 rfl (lv_at hl 1 rfl) ?_
                                      refine lv_aload_n hx hb d1280 rfl (lv_at hl 0 rfl) ?_
                                      refine lv_iload hx hb d1281 (lv_at hl 4 rfl) ?_
                                      refine lv_iconst (v := 1) hx hb d1283 (by decide) ?_
                                      refine lv_iadd hx hb d1284 ?_
                                      obtain ⟨hin, hf⟩ := x_sl_el hf
                                      refine va_sld hx hb hX hbl hbA hS hin d1285 ?_
                                      refine lv_aload_n hx hb d1286 rfl (lv_at hl 3 rfl) ?_
                                      refine x_thenLI hS hf (fun z0 e0 => x_runSX C0 hR hS me_L_cells wt_L_cells ml_L_172 (As := [.ref (xa E r1), .int (xs ((x4 + 1) : Int32).toNatClampNeg), .ref (xa E r3)]) (ct_L_cells E l C0.2.2.2.2.2.2.2.1 _ r1 (xs ((x4 + 1) : Int32).toNatClampNeg) r3) rfl rfl hl.1 (Nat.le_of_ble_eq_true rfl) d1287 ⟨(Nat.le_of_ble_eq_true rfl), (Nat.le_of_ble_eq_true rfl)⟩ ⟨(by show _ ≤ 601024; omega), (by show _ ≤ 7293034; omega)⟩ e0) (fun h9 i96 H locs hR hS hf => ?_)
                                      refine lv_istore (lv' := [(5, .int i96), (0, .ref b), (1, .ref (xa E r1)), (2, .ref (xa E r2)), (3, .ref (xa E r3)), (4, .int x4)]) hx hb d1290 hl (by decide) rfl (fun ls hl => ?_)
                                      refine lv_aload_n hx hb d1292 rfl (lv_at hl 3 rfl) ?_
                                      refine lv_aload_n hx hb d1293 rfl (lv_at hl 1 rfl) ?_
                                      refine lv_iload hx hb d1294 (lv_at hl 5 rfl) ?_
                                      refine lv_iconst (v := 1) hx hb d1296 (by decide) ?_
                                      refine lv_iadd hx hb d1297 ?_
                                      obtain ⟨hin, hf⟩ := x_sl_el hf
                                      refine va_sld hx hb hX hbl hbA hS hin d1298 ?_
                                      obtain ⟨hs9, hf⟩ := x_if hf
                                      refine x_thenLI hS hf (fun z0 e0 => x_runV C0 hR hS me_X8_cells wi_X8_cells wl_X8_cells ml_L_174 hs9 xcl_8 (As := [.int (xs ((x4 + 1) : Int32).toNatClampNeg)]) (ct_X8_cells E l C0.2.2.2.2.2.2.2.1 _ r2 (xs ((x4 + 1) : Int32).toNatClampNeg)) rfl rfl hl.1 (Nat.le_of_ble_eq_true rfl) d1299 ⟨(Nat.le_of_ble_eq_true rfl), (Nat.le_of_ble_eq_true rfl)⟩ ⟨(by show _ ≤ 601024; omega), (by show _ ≤ 7293034; omega)⟩ e0) (fun h9 i98 H locs hR hS hf => ?_)
                                      refine lv_istore (lv' := [(6, .int i98), (5, .int i96), (0, .ref b), (1, .ref (xa E r1)), (2, .ref (xa E r2)), (3, .ref (xa E r3)), (4, .int x4)]) hx hb d1302 hl (by decide) rfl (fun ls hl => ?_)
                                      refine lv_aload_n hx hb d1304 rfl (lv_at hl 4 rfl) ?_
                                      obtain ⟨hs9, hf⟩ := x_if hf
                                      refine x_thenLI hS hf (fun z0 e0 => x_runV C0 hR hS me_X8_thrown wi_X8_thrown wl_X8_thrown ml_L_117 hs9 xcl_8 (As := []) (ct_X8_thrown E l C0.2.2.2.2.2.2.2.1 _ r2) rfl rfl hl.1 (Nat.le_of_ble_eq_true rfl) d1305 ⟨(Nat.le_of_ble_eq_true rfl), (Nat.le_of_ble_eq_true rfl)⟩ ⟨(by show _ ≤ 601024; omega), (by show _ ≤ 7293034; omega)⟩ e0) (fun h9 i100 H locs hR hS hf => ?_)
                                      refine lv_iload hx hb d1308 (lv_at hl 1 rfl) ?_
                                      refine lv_icmp_eq (tgt := 1315) hx hb d1310 (by decide) (fun q => ?_) (fun q => ?_)
                                      · have hf := x_pos q hf
                                        have h0 : x_by cL_law 1315 [21, 5, 154, 0, 15] := by unfold x_by; decide +kernel
                                        obtain ⟨d1315, h0⟩ := de_iload h0
                                        obtain ⟨d1317, h0⟩ := de_if_ne (15) (by decide) h0
                                        refine lv_iload hx hb d1315 (lv_at hl 1 rfl) ?_
                                        refine lv_if_ne (tgt := 1332) hx hb d1317 (by decide) (fun q => ?_) (fun q => ?_)
                                        · have hf := x_neg q hf
                                          exact s_L_law_b1332 hE C0 hX hbl hbA hk23 _ _ _ _ _ _ _ _ _ _ (by omega) (by omega) hR hS (lv_sub hl [2, 3, 4, 5, 6] rfl) hf
                                        · have hf := x_pos q hf
                                          have h0 : x_by cL_law 1320 [45, 3, 47, 21, 6, 133, 148, 153, 0, 5] := by unfold x_by; decide +kernel
                                          obtain ⟨d1320, h0⟩ := de_aload_n3 h0
                                          obtain ⟨d1321, h0⟩ := de_iconst_0 h0
                                          obtain ⟨d1322, h0⟩ := de_laload h0
                                          obtain ⟨d1323, h0⟩ := de_iload h0
                                          obtain ⟨d1325, h0⟩ := de_i2l h0
                                          obtain ⟨d1326, h0⟩ := de_lcmp h0
                                          obtain ⟨d1327, h0⟩ := de_if_eq (5) (by decide) h0
                                          refine lv_aload_n hx hb d1320 rfl (lv_at hl 5 rfl) ?_
                                          refine lv_iconst (v := 0) hx hb d1321 (by decide) ?_
                                          refine x_lald C0 hR hf d1322 (fun j102 hf => ?_)
                                          refine lv_iload hx hb d1323 (lv_at hl 0 rfl) ?_
                                          refine lv_i2l hx hb d1325 rfl ?_
                                          refine W.lcmp hx hb d1326 ?_
                                          refine lv_if_eq (tgt := 1332) hx hb d1327 (by decide) (fun q => ?_) (fun q => ?_)
                                          · have hf := x_pos q hf
                                            exact s_L_law_b1332 hE C0 hX hbl hbA hk23 _ _ _ _ _ _ _ _ _ _ (by omega) (by omega) hR hS (lv_sub hl [2, 3, 4, 5, 6] rfl) hf
                                          · have hf := x_neg q hf
                                            have h0 : x_by cL_law 1330 [3, 172] := by unfold x_by; decide +kernel
                                            obtain ⟨d1330, h0⟩ := de_iconst_0 h0
                                            obtain ⟨d1331, h0⟩ := de_ireturn h0
                                            refine lv_iconst (v := 0) hx hb d1330 (by decide) ?_
                                            cases hf
                                      · have hf := x_neg q hf
                                        have h0 : x_by cL_law 1313 [3, 172] := by unfold x_by; decide +kernel
                                        obtain ⟨d1313, h0⟩ := de_iconst_0 h0
                                        obtain ⟨d1314, h0⟩ := de_ireturn h0
                                        refine lv_iconst (v := 0) hx hb d1313 (by decide) ?_
                                        cases hf
                                    · have hf := x_neg q16 hf
                                      by_cases q17 : ((xs (x4 : Int32).toNatClampNeg) &&& 31) = 17
                                      · have hf := x_pos q17 hf
                                        refine lv_tableIn (tgt := 1335) hx hb d39 (by rw [q17]; decide) (by rw [q17]; decide) (by rw [q17]; first | done | rfl) (by decide) ?_
                                        have h0 : x_by cL_law 1335 [43, 42, 21, 4, 4, 96, 46, 42, 21, 4, 5, 96, 46, 42, 21, 4, 6, 96, 46, 45, 184, 0, 175, 54, 5, 44, 42, 21, 4, 4, 96, 46, 42, 21, 4, 5, 96, 46, 42, 21, 4, 6, 96, 46, 182, 0, 177, 54, 6, 44, 182, 0, 117, 21, 5, 159, 0, 5] := by unfold x_by; decide +kernel
                                        obtain ⟨d1335, h0⟩ := de_aload_n1 h0
                                        obtain ⟨d1336, h0⟩ := de_aload_n0 h0
                                        obtain ⟨d1337, h0⟩ := de_iload h0
                                        obtain ⟨d1339, h0⟩ := de_iconst_1 h0
                                        obtain ⟨d1340, h0⟩ := de_iadd h0
                                        obtain ⟨d1341, h0⟩ := de_iaload h0
                                        obtain ⟨d1342, h0⟩ := de_aload_n0 h0
                                        obtain ⟨d1343, h0⟩ := de_iload h0
                                        obtain ⟨d1345, h0⟩ := de_iconst_2 h0
                                        obtain ⟨d1346, h0⟩ := de_iadd h0
                                        obtain ⟨d1347, h0⟩ := de_iaload h0
                                        obtain ⟨d1348, h0⟩ := de_aload_n0 h0
                                        obtain ⟨d1349, h0⟩ := de_iload h0
                                        obtain ⟨d1351, h0⟩ := de_iconst_3 h0
                                        obtain ⟨d1352, h0⟩ := de_iadd h0
                                        obtain ⟨d1353, h0⟩ := de_iaload h0
                                        obtain ⟨d1354, h0⟩ := de_aload_n3 h0
                                        obtain ⟨d1355, h0⟩ := de_invokestatic 175 (by decide) h0
                                        obtain ⟨d1358, h0⟩ := de_istore h0
                                        obtain ⟨d1360, h0⟩ := de_aload_n2 h0
                                        obtain ⟨d1361, h0⟩ := de_aload_n0 h0
                                        obtain ⟨d1362, h0⟩ := de_iload h0
                                        obtain ⟨d1364, h0⟩ := de_iconst_1 h0
                                        obtain ⟨d1365, h0⟩ := de_iadd h0
                                        obtain ⟨d1366, h0⟩ := de_iaload h0
                                        obtain ⟨d1367, h0⟩ := de_aload_n0 h0
                                        obtain ⟨d1368, h0⟩ := de_iload h0
                                        obtain ⟨d1370, h0⟩ := de_iconst_2 h0
                                        obtain ⟨d1371, h0⟩ := de_iadd h0
                                        obtain ⟨d1372, h0⟩ := de_iaload h0
                                        obtain ⟨d1373, h0⟩ := de_aload_n0 h0
                                        obtain ⟨d1374, h0⟩ := de_iload h0
                                        obtain ⟨d1376, h0⟩ := de_iconst_3 h0
                                        obtain ⟨d1377, h0⟩ := de_iadd h0
                                        obtain ⟨d1378, h0⟩ := de_iaload h0
                                        obtain ⟨d1379, h0⟩ := de_invokevirtual 177 (by decide) h0
                                        obtain ⟨d1382, h0⟩ := de_istore h0
                                        obtain ⟨d1384, h0⟩ := de_aload_n2 h0
                                        obtain ⟨d1385, h0⟩ := de_invokevirtual 117 (by decide) h0
                                        obtain ⟨d1388, h0⟩ := de_iload h0
                                        obtain ⟨d1390, h0⟩ := de_icmp_eq (5) (by decide) h0
                                        refine lv_aload_n hx hb d1335 rfl (lv_at hl 1 rfl) ?_
                                        refine lv_aload_n hx hb d1336 rfl (lv_at hl 0 rfl) ?_
                                        refine lv_iload hx hb d1337 (lv_at hl 4 rfl) ?_
                                        refine lv_iconst (v := 1) hx hb d1339 (by decide) ?_
                                        refine lv_iadd hx hb d1340 ?_
                                        obtain ⟨hin, hf⟩ := x_sl_el hf
                                        refine va_sld hx hb hX hbl hbA hS hin d1341 ?_
                                        refine lv_aload_n hx hb d1342 rfl (lv_at hl 0 rfl) ?_
                                        refine lv_iload hx hb d1343 (lv_at hl 4 rfl) ?_
                                        refine lv_iconst (v := 2) hx hb d1345 (by decide) ?_
                                        refine lv_iadd hx hb d1346 ?_
                                        obtain ⟨hin, hf⟩ := x_sl_el hf
                                        refine va_sld hx hb hX hbl hbA hS hin d1347 ?_
                                        refine lv_aload_n hx hb d1348 rfl (lv_at hl 0 rfl) ?_
                                        refine lv_iload hx hb d1349 (lv_at hl 4 rfl) ?_
                                        refine lv_iconst (v := 3) hx hb d1351 (by decide) ?_
                                        refine lv_iadd hx hb d1352 ?_
                                        obtain ⟨hin, hf⟩ := x_sl_el hf
                                        refine va_sld hx hb hX hbl hbA hS hin d1353 ?_
                                        refine lv_aload_n hx hb d1354 rfl (lv_at hl 3 rfl) ?_
                                        refine x_thenLI hS hf (fun z0 e0 => x_runSX C0 hR hS me_L_size wt_L_size ml_L_175 (As := [.ref (xa E r1), .int (xs ((x4 + 1) : Int32).toNatClampNeg), .int (xs ((x4 + 2) : Int32).toNatClampNeg), .int (xs ((x4 + 3) : Int32).toNatClampNeg), .ref (xa E r3)]) (ct_L_size E l C0.2.2.2.2.2.2.2.1 _ r1 (xs ((x4 + 1) : Int32).toNatClampNeg) (xs ((x4 + 2) : Int32).toNatClampNeg) (xs ((x4 + 3) : Int32).toNatClampNeg) r3) rfl rfl hl.1 (Nat.le_of_ble_eq_true rfl) d1355 ⟨(Nat.le_of_ble_eq_true rfl), (Nat.le_of_ble_eq_true rfl)⟩ ⟨(by show _ ≤ 601024; omega), (by show _ ≤ 7293034; omega)⟩ e0) (fun h9 i103 H locs hR hS hf => ?_)
                                        refine lv_istore (lv' := [(5, .int i103), (0, .ref b), (1, .ref (xa E r1)), (2, .ref (xa E r2)), (3, .ref (xa E r3)), (4, .int x4)]) hx hb d1358 hl (by decide) rfl (fun ls hl => ?_)
                                        refine lv_aload_n hx hb d1360 rfl (lv_at hl 3 rfl) ?_
                                        refine lv_aload_n hx hb d1361 rfl (lv_at hl 1 rfl) ?_
                                        refine lv_iload hx hb d1362 (lv_at hl 5 rfl) ?_
                                        refine lv_iconst (v := 1) hx hb d1364 (by decide) ?_
                                        refine lv_iadd hx hb d1365 ?_
                                        obtain ⟨hin, hf⟩ := x_sl_el hf
                                        refine va_sld hx hb hX hbl hbA hS hin d1366 ?_
                                        refine lv_aload_n hx hb d1367 rfl (lv_at hl 1 rfl) ?_
                                        refine lv_iload hx hb d1368 (lv_at hl 5 rfl) ?_
                                        refine lv_iconst (v := 2) hx hb d1370 (by decide) ?_
                                        refine lv_iadd hx hb d1371 ?_
                                        obtain ⟨hin, hf⟩ := x_sl_el hf
                                        refine va_sld hx hb hX hbl hbA hS hin d1372 ?_
                                        refine lv_aload_n hx hb d1373 rfl (lv_at hl 1 rfl) ?_
                                        refine lv_iload hx hb d1374 (lv_at hl 5 rfl) ?_
                                        refine lv_iconst (v := 3) hx hb d1376 (by decide) ?_
                                        refine lv_iadd hx hb d1377 ?_
                                        obtain ⟨hin, hf⟩ := x_sl_el hf
                                        refine va_sld hx hb hX hbl hbA hS hin d1378 ?_
                                        obtain ⟨hs9, hf⟩ := x_if hf
                                        refine x_thenLI hS hf (fun z0 e0 => x_runV C0 hR hS me_X8_size wi_X8_size wl_X8_size ml_L_177 hs9 xcl_8 (As := [.int (xs ((x4 + 1) : Int32).toNatClampNeg), .int (xs ((x4 + 2) : Int32).toNatClampNeg), .int (xs ((x4 + 3) : Int32).toNatClampNeg)]) (ct_X8_size E l C0.2.2.2.2.2.2.2.1 _ r2 (xs ((x4 + 1) : Int32).toNatClampNeg) (xs ((x4 + 2) : Int32).toNatClampNeg) (xs ((x4 + 3) : Int32).toNatClampNeg)) rfl rfl hl.1 (Nat.le_of_ble_eq_true rfl) d1379 ⟨(Nat.le_of_ble_eq_true rfl), (Nat.le_of_ble_eq_true rfl)⟩ ⟨(by show _ ≤ 601024; omega), (by show _ ≤ 7293034; omega)⟩ e0) (fun h9 i105 H locs hR hS hf => ?_)
                                        refine lv_istore (lv' := [(6, .int i105), (5, .int i103), (0, .ref b), (1, .ref (xa E r1)), (2, .ref (xa E r2)), (3, .ref (xa E r3)), (4, .int x4)]) hx hb d1382 hl (by decide) rfl (fun ls hl => ?_)
                                        refine lv_aload_n hx hb d1384 rfl (lv_at hl 4 rfl) ?_
                                        obtain ⟨hs9, hf⟩ := x_if hf
                                        refine x_thenLI hS hf (fun z0 e0 => x_runV C0 hR hS me_X8_thrown wi_X8_thrown wl_X8_thrown ml_L_117 hs9 xcl_8 (As := []) (ct_X8_thrown E l C0.2.2.2.2.2.2.2.1 _ r2) rfl rfl hl.1 (Nat.le_of_ble_eq_true rfl) d1385 ⟨(Nat.le_of_ble_eq_true rfl), (Nat.le_of_ble_eq_true rfl)⟩ ⟨(by show _ ≤ 601024; omega), (by show _ ≤ 7293034; omega)⟩ e0) (fun h9 i107 H locs hR hS hf => ?_)
                                        refine lv_iload hx hb d1388 (lv_at hl 1 rfl) ?_
                                        refine lv_icmp_eq (tgt := 1395) hx hb d1390 (by decide) (fun q => ?_) (fun q => ?_)
                                        · have hf := x_pos q hf
                                          have h0 : x_by cL_law 1395 [21, 5, 154, 0, 15] := by unfold x_by; decide +kernel
                                          obtain ⟨d1395, h0⟩ := de_iload h0
                                          obtain ⟨d1397, h0⟩ := de_if_ne (15) (by decide) h0
                                          refine lv_iload hx hb d1395 (lv_at hl 1 rfl) ?_
                                          refine lv_if_ne (tgt := 1412) hx hb d1397 (by decide) (fun q => ?_) (fun q => ?_)
                                          · have hf := x_neg q hf
                                            exact s_L_law_b1412 hE C0 hX hbl hbA hk23 _ _ _ _ _ _ _ _ _ _ (by omega) (by omega) hR hS (lv_sub hl [2, 3, 4, 5, 6] rfl) hf
                                          · have hf := x_pos q hf
                                            have h0 : x_by cL_law 1400 [45, 3, 47, 21, 6, 133, 148, 153, 0, 5] := by unfold x_by; decide +kernel
                                            obtain ⟨d1400, h0⟩ := de_aload_n3 h0
                                            obtain ⟨d1401, h0⟩ := de_iconst_0 h0
                                            obtain ⟨d1402, h0⟩ := de_laload h0
                                            obtain ⟨d1403, h0⟩ := de_iload h0
                                            obtain ⟨d1405, h0⟩ := de_i2l h0
                                            obtain ⟨d1406, h0⟩ := de_lcmp h0
                                            obtain ⟨d1407, h0⟩ := de_if_eq (5) (by decide) h0
                                            refine lv_aload_n hx hb d1400 rfl (lv_at hl 5 rfl) ?_
                                            refine lv_iconst (v := 0) hx hb d1401 (by decide) ?_
                                            refine x_lald C0 hR hf d1402 (fun j109 hf => ?_)
                                            refine lv_iload hx hb d1403 (lv_at hl 0 rfl) ?_
                                            refine lv_i2l hx hb d1405 rfl ?_
                                            refine W.lcmp hx hb d1406 ?_
                                            refine lv_if_eq (tgt := 1412) hx hb d1407 (by decide) (fun q => ?_) (fun q => ?_)
                                            · have hf := x_pos q hf
                                              exact s_L_law_b1412 hE C0 hX hbl hbA hk23 _ _ _ _ _ _ _ _ _ _ (by omega) (by omega) hR hS (lv_sub hl [2, 3, 4, 5, 6] rfl) hf
                                            · have hf := x_neg q hf
                                              have h0 : x_by cL_law 1410 [3, 172] := by unfold x_by; decide +kernel
                                              obtain ⟨d1410, h0⟩ := de_iconst_0 h0
                                              obtain ⟨d1411, h0⟩ := de_ireturn h0
                                              refine lv_iconst (v := 0) hx hb d1410 (by decide) ?_
                                              cases hf
                                        · have hf := x_neg q hf
                                          have h0 : x_by cL_law 1393 [3, 172] := by unfold x_by; decide +kernel
                                          obtain ⟨d1393, h0⟩ := de_iconst_0 h0
                                          obtain ⟨d1394, h0⟩ := de_ireturn h0
                                          refine lv_iconst (v := 0) hx hb d1393 (by decide) ?_
                                          cases hf
                                      · have hf := x_neg q17 hf
                                        by_cases q18 : ((xs (x4 : Int32).toNatClampNeg) &&& 31) = 18
                                        · have hf := x_pos q18 hf
                                          refine lv_tableIn (tgt := 1415) hx hb d39 (by rw [q18]; decide) (by rw [q18]; decide) (by rw [q18]; first | done | rfl) (by decide) ?_
                                          have h0 : x_by cL_law 1415 [43, 42, 21, 4, 4, 96, 46, 42, 21, 4, 5, 96, 46, 45, 184, 0, 178, 54, 5, 44, 42, 21, 4, 4, 96, 46, 42, 21, 4, 5, 96, 46, 182, 0, 180, 54, 6, 44, 182, 0, 117, 21, 5, 159, 0, 5] := by unfold x_by; decide +kernel
                                          obtain ⟨d1415, h0⟩ := de_aload_n1 h0
                                          obtain ⟨d1416, h0⟩ := de_aload_n0 h0
                                          obtain ⟨d1417, h0⟩ := de_iload h0
                                          obtain ⟨d1419, h0⟩ := de_iconst_1 h0
                                          obtain ⟨d1420, h0⟩ := de_iadd h0
                                          obtain ⟨d1421, h0⟩ := de_iaload h0
                                          obtain ⟨d1422, h0⟩ := de_aload_n0 h0
                                          obtain ⟨d1423, h0⟩ := de_iload h0
                                          obtain ⟨d1425, h0⟩ := de_iconst_2 h0
                                          obtain ⟨d1426, h0⟩ := de_iadd h0
                                          obtain ⟨d1427, h0⟩ := de_iaload h0
                                          obtain ⟨d1428, h0⟩ := de_aload_n3 h0
                                          obtain ⟨d1429, h0⟩ := de_invokestatic 178 (by decide) h0
                                          obtain ⟨d1432, h0⟩ := de_istore h0
                                          obtain ⟨d1434, h0⟩ := de_aload_n2 h0
                                          obtain ⟨d1435, h0⟩ := de_aload_n0 h0
                                          obtain ⟨d1436, h0⟩ := de_iload h0
                                          obtain ⟨d1438, h0⟩ := de_iconst_1 h0
                                          obtain ⟨d1439, h0⟩ := de_iadd h0
                                          obtain ⟨d1440, h0⟩ := de_iaload h0
                                          obtain ⟨d1441, h0⟩ := de_aload_n0 h0
                                          obtain ⟨d1442, h0⟩ := de_iload h0
                                          obtain ⟨d1444, h0⟩ := de_iconst_2 h0
                                          obtain ⟨d1445, h0⟩ := de_iadd h0
                                          obtain ⟨d1446, h0⟩ := de_iaload h0
                                          obtain ⟨d1447, h0⟩ := de_invokevirtual 180 (by decide) h0
                                          obtain ⟨d1450, h0⟩ := de_istore h0
                                          obtain ⟨d1452, h0⟩ := de_aload_n2 h0
                                          obtain ⟨d1453, h0⟩ := de_invokevirtual 117 (by decide) h0
                                          obtain ⟨d1456, h0⟩ := de_iload h0
                                          obtain ⟨d1458, h0⟩ := de_icmp_eq (5) (by decide) h0
                                          refine lv_aload_n hx hb d1415 rfl (lv_at hl 1 rfl) ?_
                                          refine lv_aload_n hx hb d1416 rfl (lv_at hl 0 rfl) ?_
                                          refine lv_iload hx hb d1417 (lv_at hl 4 rfl) ?_
                                          refine lv_iconst (v := 1) hx hb d1419 (by decide) ?_
                                          refine lv_iadd hx hb d1420 ?_
                                          obtain ⟨hin, hf⟩ := x_sl_el hf
                                          refine va_sld hx hb hX hbl hbA hS hin d1421 ?_
                                          refine lv_aload_n hx hb d1422 rfl (lv_at hl 0 rfl) ?_
                                          refine lv_iload hx hb d1423 (lv_at hl 4 rfl) ?_
                                          refine lv_iconst (v := 2) hx hb d1425 (by decide) ?_
                                          refine lv_iadd hx hb d1426 ?_
                                          obtain ⟨hin, hf⟩ := x_sl_el hf
                                          refine va_sld hx hb hX hbl hbA hS hin d1427 ?_
                                          refine lv_aload_n hx hb d1428 rfl (lv_at hl 3 rfl) ?_
                                          refine x_thenLI hS hf (fun z0 e0 => x_runSX C0 hR hS me_L_isCollapsed wt_L_isCollapsed ml_L_178 (As := [.ref (xa E r1), .int (xs ((x4 + 1) : Int32).toNatClampNeg), .int (xs ((x4 + 2) : Int32).toNatClampNeg), .ref (xa E r3)]) (ct_L_isCollapsed E l C0.2.2.2.2.2.2.2.1 _ r1 (xs ((x4 + 1) : Int32).toNatClampNeg) (xs ((x4 + 2) : Int32).toNatClampNeg) r3) rfl rfl hl.1 (Nat.le_of_ble_eq_true rfl) d1429 ⟨(Nat.le_of_ble_eq_true rfl), (Nat.le_of_ble_eq_true rfl)⟩ ⟨(by show _ ≤ 601024; omega), (by show _ ≤ 7293034; omega)⟩ e0) (fun h9 i110 H locs hR hS hf => ?_)
                                          refine lv_istore (lv' := [(5, .int i110), (0, .ref b), (1, .ref (xa E r1)), (2, .ref (xa E r2)), (3, .ref (xa E r3)), (4, .int x4)]) hx hb d1432 hl (by decide) rfl (fun ls hl => ?_)
                                          refine lv_aload_n hx hb d1434 rfl (lv_at hl 3 rfl) ?_
                                          refine lv_aload_n hx hb d1435 rfl (lv_at hl 1 rfl) ?_
                                          refine lv_iload hx hb d1436 (lv_at hl 5 rfl) ?_
                                          refine lv_iconst (v := 1) hx hb d1438 (by decide) ?_
                                          refine lv_iadd hx hb d1439 ?_
                                          obtain ⟨hin, hf⟩ := x_sl_el hf
                                          refine va_sld hx hb hX hbl hbA hS hin d1440 ?_
                                          refine lv_aload_n hx hb d1441 rfl (lv_at hl 1 rfl) ?_
                                          refine lv_iload hx hb d1442 (lv_at hl 5 rfl) ?_
                                          refine lv_iconst (v := 2) hx hb d1444 (by decide) ?_
                                          refine lv_iadd hx hb d1445 ?_
                                          obtain ⟨hin, hf⟩ := x_sl_el hf
                                          refine va_sld hx hb hX hbl hbA hS hin d1446 ?_
                                          obtain ⟨hs9, hf⟩ := x_if hf
                                          refine x_thenLI hS hf (fun z0 e0 => x_runV C0 hR hS me_X8_isCollapsed wi_X8_isCollapsed wl_X8_isCollapsed ml_L_180 hs9 xcl_8 (As := [.int (xs ((x4 + 1) : Int32).toNatClampNeg), .int (xs ((x4 + 2) : Int32).toNatClampNeg)]) (ct_X8_isCollapsed E l C0.2.2.2.2.2.2.2.1 _ r2 (xs ((x4 + 1) : Int32).toNatClampNeg) (xs ((x4 + 2) : Int32).toNatClampNeg)) rfl rfl hl.1 (Nat.le_of_ble_eq_true rfl) d1447 ⟨(Nat.le_of_ble_eq_true rfl), (Nat.le_of_ble_eq_true rfl)⟩ ⟨(by show _ ≤ 601024; omega), (by show _ ≤ 7293034; omega)⟩ e0) (fun h9 i112 H locs hR hS hf => ?_)
                                          refine lv_istore (lv' := [(6, .int i112), (5, .int i110), (0, .ref b), (1, .ref (xa E r1)), (2, .ref (xa E r2)), (3, .ref (xa E r3)), (4, .int x4)]) hx hb d1450 hl (by decide) rfl (fun ls hl => ?_)
                                          refine lv_aload_n hx hb d1452 rfl (lv_at hl 4 rfl) ?_
                                          obtain ⟨hs9, hf⟩ := x_if hf
                                          refine x_thenLI hS hf (fun z0 e0 => x_runV C0 hR hS me_X8_thrown wi_X8_thrown wl_X8_thrown ml_L_117 hs9 xcl_8 (As := []) (ct_X8_thrown E l C0.2.2.2.2.2.2.2.1 _ r2) rfl rfl hl.1 (Nat.le_of_ble_eq_true rfl) d1453 ⟨(Nat.le_of_ble_eq_true rfl), (Nat.le_of_ble_eq_true rfl)⟩ ⟨(by show _ ≤ 601024; omega), (by show _ ≤ 7293034; omega)⟩ e0) (fun h9 i114 H locs hR hS hf => ?_)
                                          refine lv_iload hx hb d1456 (lv_at hl 1 rfl) ?_
                                          refine lv_icmp_eq (tgt := 1463) hx hb d1458 (by decide) (fun q => ?_) (fun q => ?_)
                                          · have hf := x_pos q hf
                                            have h0 : x_by cL_law 1463 [21, 5, 154, 0, 22] := by unfold x_by; decide +kernel
                                            obtain ⟨d1463, h0⟩ := de_iload h0
                                            obtain ⟨d1465, h0⟩ := de_if_ne (22) (by decide) h0
                                            refine lv_iload hx hb d1463 (lv_at hl 1 rfl) ?_
                                            refine lv_if_ne (tgt := 1487) hx hb d1465 (by decide) (fun q => ?_) (fun q => ?_)
                                            · have hf := x_neg q hf
                                              exact s_L_law_b1487 hE C0 hX hbl hbA hk23 _ _ _ _ _ _ _ _ _ _ (by omega) (by omega) hR hS (lv_sub hl [2, 3, 4, 5, 6] rfl) hf
                                            · have hf := x_pos q hf
                                              have h0 : x_by cL_law 1468 [45, 3, 47, 21, 6, 153, 0, 7] := by unfold x_by; decide +kernel
                                              obtain ⟨d1468, h0⟩ := de_aload_n3 h0
                                              obtain ⟨d1469, h0⟩ := de_iconst_0 h0
                                              obtain ⟨d1470, h0⟩ := de_laload h0
                                              obtain ⟨d1471, h0⟩ := de_iload h0
                                              obtain ⟨d1473, h0⟩ := de_if_eq (7) (by decide) h0
                                              refine lv_aload_n hx hb d1468 rfl (lv_at hl 5 rfl) ?_
                                              refine lv_iconst (v := 0) hx hb d1469 (by decide) ?_
                                              refine x_lald C0 hR hf d1470 (fun j116 hf => ?_)
                                              refine lv_iload hx hb d1471 (lv_at hl 0 rfl) ?_
                                              refine lv_if_eq (tgt := 1480) hx hb d1473 (by decide) (fun q => ?_) (fun q => ?_)
                                              · have hf := x_pos q hf
                                                have h0 : x_by cL_law 1480 [9] := by unfold x_by; decide +kernel
                                                obtain ⟨d1480, h0⟩ := de_lconst_0 h0
                                                refine lv_lconst (v := 0) hx hb d1480 (by decide) ?_
                                                exact s_L_law_b1481 hE C0 hX hbl hbA hk23 _ _ _ _ _ _ _ _ _ _ _ _ (by omega) (by omega) hR hS (lv_sub hl [2, 3, 4, 5, 6] rfl) hf
                                              · have hf := x_neg q hf
                                                have h0 : x_by cL_law 1476 [10, 167, 0, 4] := by unfold x_by; decide +kernel
                                                obtain ⟨d1476, h0⟩ := de_lconst_1 h0
                                                obtain ⟨d1477, h0⟩ := de_goto (4) (by decide) h0
                                                refine lv_lconst (v := 1) hx hb d1476 (by decide) ?_
                                                refine lv_goto (tgt := 1481) hx hb d1477 (by decide) ?_
                                                exact s_L_law_b1481 hE C0 hX hbl hbA hk23 _ _ _ _ _ _ _ _ _ _ _ _ (by omega) (by omega) hR hS (lv_sub hl [2, 3, 4, 5, 6] rfl) hf
                                          · have hf := x_neg q hf
                                            have h0 : x_by cL_law 1461 [3, 172] := by unfold x_by; decide +kernel
                                            obtain ⟨d1461, h0⟩ := de_iconst_0 h0
                                            obtain ⟨d1462, h0⟩ := de_ireturn h0
                                            refine lv_iconst (v := 0) hx hb d1461 (by decide) ?_
                                            cases hf
                                        · have hf := x_neg q18 hf
                                          by_cases q19 : ((xs (x4 : Int32).toNatClampNeg) &&& 31) = 19
                                          · have hf := x_pos q19 hf
                                            refine lv_tableIn (tgt := 1490) hx hb d39 (by rw [q19]; decide) (by rw [q19]; decide) (by rw [q19]; first | done | rfl) (by decide) ?_
                                            have h0 : x_by cL_law 1490 [43, 42, 21, 4, 4, 96, 46, 42, 21, 4, 5, 96, 46, 45, 184, 0, 181, 54, 5, 44, 42, 21, 4, 4, 96, 46, 42, 21, 4, 5, 96, 46, 182, 0, 183, 54, 6, 44, 182, 0, 117, 21, 5, 159, 0, 5] := by unfold x_by; decide +kernel
                                            obtain ⟨d1490, h0⟩ := de_aload_n1 h0
                                            obtain ⟨d1491, h0⟩ := de_aload_n0 h0
                                            obtain ⟨d1492, h0⟩ := de_iload h0
                                            obtain ⟨d1494, h0⟩ := de_iconst_1 h0
                                            obtain ⟨d1495, h0⟩ := de_iadd h0
                                            obtain ⟨d1496, h0⟩ := de_iaload h0
                                            obtain ⟨d1497, h0⟩ := de_aload_n0 h0
                                            obtain ⟨d1498, h0⟩ := de_iload h0
                                            obtain ⟨d1500, h0⟩ := de_iconst_2 h0
                                            obtain ⟨d1501, h0⟩ := de_iadd h0
                                            obtain ⟨d1502, h0⟩ := de_iaload h0
                                            obtain ⟨d1503, h0⟩ := de_aload_n3 h0
                                            obtain ⟨d1504, h0⟩ := de_invokestatic 181 (by decide) h0
                                            obtain ⟨d1507, h0⟩ := de_istore h0
                                            obtain ⟨d1509, h0⟩ := de_aload_n2 h0
                                            obtain ⟨d1510, h0⟩ := de_aload_n0 h0
                                            obtain ⟨d1511, h0⟩ := de_iload h0
                                            obtain ⟨d1513, h0⟩ := de_iconst_1 h0
                                            obtain ⟨d1514, h0⟩ := de_iadd h0
                                            obtain ⟨d1515, h0⟩ := de_iaload h0
                                            obtain ⟨d1516, h0⟩ := de_aload_n0 h0
                                            obtain ⟨d1517, h0⟩ := de_iload h0
                                            obtain ⟨d1519, h0⟩ := de_iconst_2 h0
                                            obtain ⟨d1520, h0⟩ := de_iadd h0
                                            obtain ⟨d1521, h0⟩ := de_iaload h0
                                            obtain ⟨d1522, h0⟩ := de_invokevirtual 183 (by decide) h0
                                            obtain ⟨d1525, h0⟩ := de_istore h0
                                            obtain ⟨d1527, h0⟩ := de_aload_n2 h0
                                            obtain ⟨d1528, h0⟩ := de_invokevirtual 117 (by decide) h0
                                            obtain ⟨d1531, h0⟩ := de_iload h0
                                            obtain ⟨d1533, h0⟩ := de_icmp_eq (5) (by decide) h0
                                            refine lv_aload_n hx hb d1490 rfl (lv_at hl 1 rfl) ?_
                                            refine lv_aload_n hx hb d1491 rfl (lv_at hl 0 rfl) ?_
                                            refine lv_iload hx hb d1492 (lv_at hl 4 rfl) ?_
                                            refine lv_iconst (v := 1) hx hb d1494 (by decide) ?_
                                            refine lv_iadd hx hb d1495 ?_
                                            obtain ⟨hin, hf⟩ := x_sl_el hf
                                            refine va_sld hx hb hX hbl hbA hS hin d1496 ?_
                                            refine lv_aload_n hx hb d1497 rfl (lv_at hl 0 rfl) ?_
                                            refine lv_iload hx hb d1498 (lv_at hl 4 rfl) ?_
                                            refine lv_iconst (v := 2) hx hb d1500 (by decide) ?_
                                            refine lv_iadd hx hb d1501 ?_
                                            obtain ⟨hin, hf⟩ := x_sl_el hf
                                            refine va_sld hx hb hX hbl hbA hS hin d1502 ?_
                                            refine lv_aload_n hx hb d1503 rfl (lv_at hl 3 rfl) ?_
                                            refine x_thenLI hS hf (fun z0 e0 => x_runSX C0 hR hS me_L_position wt_L_position ml_L_181 (As := [.ref (xa E r1), .int (xs ((x4 + 1) : Int32).toNatClampNeg), .int (xs ((x4 + 2) : Int32).toNatClampNeg), .ref (xa E r3)]) (ct_L_position E l C0.2.2.2.2.2.2.2.1 _ r1 (xs ((x4 + 1) : Int32).toNatClampNeg) (xs ((x4 + 2) : Int32).toNatClampNeg) r3) rfl rfl hl.1 (Nat.le_of_ble_eq_true rfl) d1504 ⟨(Nat.le_of_ble_eq_true rfl), (Nat.le_of_ble_eq_true rfl)⟩ ⟨(by show _ ≤ 601024; omega), (by show _ ≤ 7293034; omega)⟩ e0) (fun h9 i117 H locs hR hS hf => ?_)
                                            refine lv_istore (lv' := [(5, .int i117), (0, .ref b), (1, .ref (xa E r1)), (2, .ref (xa E r2)), (3, .ref (xa E r3)), (4, .int x4)]) hx hb d1507 hl (by decide) rfl (fun ls hl => ?_)
                                            refine lv_aload_n hx hb d1509 rfl (lv_at hl 3 rfl) ?_
                                            refine lv_aload_n hx hb d1510 rfl (lv_at hl 1 rfl) ?_
                                            refine lv_iload hx hb d1511 (lv_at hl 5 rfl) ?_
                                            refine lv_iconst (v := 1) hx hb d1513 (by decide) ?_
                                            refine lv_iadd hx hb d1514 ?_
                                            obtain ⟨hin, hf⟩ := x_sl_el hf
                                            refine va_sld hx hb hX hbl hbA hS hin d1515 ?_
                                            refine lv_aload_n hx hb d1516 rfl (lv_at hl 1 rfl) ?_
                                            refine lv_iload hx hb d1517 (lv_at hl 5 rfl) ?_
                                            refine lv_iconst (v := 2) hx hb d1519 (by decide) ?_
                                            refine lv_iadd hx hb d1520 ?_
                                            obtain ⟨hin, hf⟩ := x_sl_el hf
                                            refine va_sld hx hb hX hbl hbA hS hin d1521 ?_
                                            obtain ⟨hs9, hf⟩ := x_if hf
                                            refine x_thenLI hS hf (fun z0 e0 => x_runV C0 hR hS me_X8_position wi_X8_position wl_X8_position ml_L_183 hs9 xcl_8 (As := [.int (xs ((x4 + 1) : Int32).toNatClampNeg), .int (xs ((x4 + 2) : Int32).toNatClampNeg)]) (ct_X8_position E l C0.2.2.2.2.2.2.2.1 _ r2 (xs ((x4 + 1) : Int32).toNatClampNeg) (xs ((x4 + 2) : Int32).toNatClampNeg)) rfl rfl hl.1 (Nat.le_of_ble_eq_true rfl) d1522 ⟨(Nat.le_of_ble_eq_true rfl), (Nat.le_of_ble_eq_true rfl)⟩ ⟨(by show _ ≤ 601024; omega), (by show _ ≤ 7293034; omega)⟩ e0) (fun h9 i119 H locs hR hS hf => ?_)
                                            refine lv_istore (lv' := [(6, .int i119), (5, .int i117), (0, .ref b), (1, .ref (xa E r1)), (2, .ref (xa E r2)), (3, .ref (xa E r3)), (4, .int x4)]) hx hb d1525 hl (by decide) rfl (fun ls hl => ?_)
                                            refine lv_aload_n hx hb d1527 rfl (lv_at hl 4 rfl) ?_
                                            obtain ⟨hs9, hf⟩ := x_if hf
                                            refine x_thenLI hS hf (fun z0 e0 => x_runV C0 hR hS me_X8_thrown wi_X8_thrown wl_X8_thrown ml_L_117 hs9 xcl_8 (As := []) (ct_X8_thrown E l C0.2.2.2.2.2.2.2.1 _ r2) rfl rfl hl.1 (Nat.le_of_ble_eq_true rfl) d1528 ⟨(Nat.le_of_ble_eq_true rfl), (Nat.le_of_ble_eq_true rfl)⟩ ⟨(by show _ ≤ 601024; omega), (by show _ ≤ 7293034; omega)⟩ e0) (fun h9 i121 H locs hR hS hf => ?_)
                                            refine lv_iload hx hb d1531 (lv_at hl 1 rfl) ?_
                                            refine lv_icmp_eq (tgt := 1538) hx hb d1533 (by decide) (fun q => ?_) (fun q => ?_)
                                            · have hf := x_pos q hf
                                              have h0 : x_by cL_law 1538 [21, 5, 154, 0, 15] := by unfold x_by; decide +kernel
                                              obtain ⟨d1538, h0⟩ := de_iload h0
                                              obtain ⟨d1540, h0⟩ := de_if_ne (15) (by decide) h0
                                              refine lv_iload hx hb d1538 (lv_at hl 1 rfl) ?_
                                              refine lv_if_ne (tgt := 1555) hx hb d1540 (by decide) (fun q => ?_) (fun q => ?_)
                                              · have hf := x_neg q hf
                                                exact s_L_law_b1555 hE C0 hX hbl hbA hk23 _ _ _ _ _ _ _ _ _ _ (by omega) (by omega) hR hS (lv_sub hl [2, 3, 4, 5, 6] rfl) hf
                                              · have hf := x_pos q hf
                                                have h0 : x_by cL_law 1543 [45, 3, 47, 21, 6, 133, 148, 153, 0, 5] := by unfold x_by; decide +kernel
                                                obtain ⟨d1543, h0⟩ := de_aload_n3 h0
                                                obtain ⟨d1544, h0⟩ := de_iconst_0 h0
                                                obtain ⟨d1545, h0⟩ := de_laload h0
                                                obtain ⟨d1546, h0⟩ := de_iload h0
                                                obtain ⟨d1548, h0⟩ := de_i2l h0
                                                obtain ⟨d1549, h0⟩ := de_lcmp h0
                                                obtain ⟨d1550, h0⟩ := de_if_eq (5) (by decide) h0
                                                refine lv_aload_n hx hb d1543 rfl (lv_at hl 5 rfl) ?_
                                                refine lv_iconst (v := 0) hx hb d1544 (by decide) ?_
                                                refine x_lald C0 hR hf d1545 (fun j123 hf => ?_)
                                                refine lv_iload hx hb d1546 (lv_at hl 0 rfl) ?_
                                                refine lv_i2l hx hb d1548 rfl ?_
                                                refine W.lcmp hx hb d1549 ?_
                                                refine lv_if_eq (tgt := 1555) hx hb d1550 (by decide) (fun q => ?_) (fun q => ?_)
                                                · have hf := x_pos q hf
                                                  exact s_L_law_b1555 hE C0 hX hbl hbA hk23 _ _ _ _ _ _ _ _ _ _ (by omega) (by omega) hR hS (lv_sub hl [2, 3, 4, 5, 6] rfl) hf
                                                · have hf := x_neg q hf
                                                  have h0 : x_by cL_law 1553 [3, 172] := by unfold x_by; decide +kernel
                                                  obtain ⟨d1553, h0⟩ := de_iconst_0 h0
                                                  obtain ⟨d1554, h0⟩ := de_ireturn h0
                                                  refine lv_iconst (v := 0) hx hb d1553 (by decide) ?_
                                                  cases hf
                                            · have hf := x_neg q hf
                                              have h0 : x_by cL_law 1536 [3, 172] := by unfold x_by; decide +kernel
                                              obtain ⟨d1536, h0⟩ := de_iconst_0 h0
                                              obtain ⟨d1537, h0⟩ := de_ireturn h0
                                              refine lv_iconst (v := 0) hx hb d1536 (by decide) ?_
                                              cases hf
                                          · have hf := x_neg q19 hf
                                            by_cases q20 : ((xs (x4 : Int32).toNatClampNeg) &&& 31) = 20
                                            · have hf := x_pos q20 hf
                                              refine lv_tableIn (tgt := 1558) hx hb d39 (by rw [q20]; decide) (by rw [q20]; decide) (by rw [q20]; first | done | rfl) (by decide) ?_
                                              have h0 : x_by cL_law 1558 [43, 42, 21, 4, 4, 96, 46, 42, 21, 4, 5, 96, 46, 45, 184, 0, 184, 54, 5, 44, 42, 21, 4, 4, 96, 46, 42, 21, 4, 5, 96, 46, 182, 0, 186, 54, 6, 44, 182, 0, 117, 21, 5, 159, 0, 5] := by unfold x_by; decide +kernel
                                              obtain ⟨d1558, h0⟩ := de_aload_n1 h0
                                              obtain ⟨d1559, h0⟩ := de_aload_n0 h0
                                              obtain ⟨d1560, h0⟩ := de_iload h0
                                              obtain ⟨d1562, h0⟩ := de_iconst_1 h0
                                              obtain ⟨d1563, h0⟩ := de_iadd h0
                                              obtain ⟨d1564, h0⟩ := de_iaload h0
                                              obtain ⟨d1565, h0⟩ := de_aload_n0 h0
                                              obtain ⟨d1566, h0⟩ := de_iload h0
                                              obtain ⟨d1568, h0⟩ := de_iconst_2 h0
                                              obtain ⟨d1569, h0⟩ := de_iadd h0
                                              obtain ⟨d1570, h0⟩ := de_iaload h0
                                              obtain ⟨d1571, h0⟩ := de_aload_n3 h0
                                              obtain ⟨d1572, h0⟩ := de_invokestatic 184 (by decide) h0
                                              obtain ⟨d1575, h0⟩ := de_istore h0
                                              obtain ⟨d1577, h0⟩ := de_aload_n2 h0
                                              obtain ⟨d1578, h0⟩ := de_aload_n0 h0
                                              obtain ⟨d1579, h0⟩ := de_iload h0
                                              obtain ⟨d1581, h0⟩ := de_iconst_1 h0
                                              obtain ⟨d1582, h0⟩ := de_iadd h0
                                              obtain ⟨d1583, h0⟩ := de_iaload h0
                                              obtain ⟨d1584, h0⟩ := de_aload_n0 h0
                                              obtain ⟨d1585, h0⟩ := de_iload h0
                                              obtain ⟨d1587, h0⟩ := de_iconst_2 h0
                                              obtain ⟨d1588, h0⟩ := de_iadd h0
                                              obtain ⟨d1589, h0⟩ := de_iaload h0
                                              obtain ⟨d1590, h0⟩ := de_invokevirtual 186 (by decide) h0
                                              obtain ⟨d1593, h0⟩ := de_istore h0
                                              obtain ⟨d1595, h0⟩ := de_aload_n2 h0
                                              obtain ⟨d1596, h0⟩ := de_invokevirtual 117 (by decide) h0
                                              obtain ⟨d1599, h0⟩ := de_iload h0
                                              obtain ⟨d1601, h0⟩ := de_icmp_eq (5) (by decide) h0
                                              refine lv_aload_n hx hb d1558 rfl (lv_at hl 1 rfl) ?_
                                              refine lv_aload_n hx hb d1559 rfl (lv_at hl 0 rfl) ?_
                                              refine lv_iload hx hb d1560 (lv_at hl 4 rfl) ?_
                                              refine lv_iconst (v := 1) hx hb d1562 (by decide) ?_
                                              refine lv_iadd hx hb d1563 ?_
                                              obtain ⟨hin, hf⟩ := x_sl_el hf
                                              refine va_sld hx hb hX hbl hbA hS hin d1564 ?_
                                              refine lv_aload_n hx hb d1565 rfl (lv_at hl 0 rfl) ?_
                                              refine lv_iload hx hb d1566 (lv_at hl 4 rfl) ?_
                                              refine lv_iconst (v := 2) hx hb d1568 (by decide) ?_
                                              refine lv_iadd hx hb d1569 ?_
                                              obtain ⟨hin, hf⟩ := x_sl_el hf
                                              refine va_sld hx hb hX hbl hbA hS hin d1570 ?_
                                              refine lv_aload_n hx hb d1571 rfl (lv_at hl 3 rfl) ?_
                                              refine x_thenLI hS hf (fun z0 e0 => x_runSX C0 hR hS me_L_total wt_L_total ml_L_184 (As := [.ref (xa E r1), .int (xs ((x4 + 1) : Int32).toNatClampNeg), .int (xs ((x4 + 2) : Int32).toNatClampNeg), .ref (xa E r3)]) (ct_L_total E l C0.2.2.2.2.2.2.2.1 _ r1 (xs ((x4 + 1) : Int32).toNatClampNeg) (xs ((x4 + 2) : Int32).toNatClampNeg) r3) rfl rfl hl.1 (Nat.le_of_ble_eq_true rfl) d1572 ⟨(Nat.le_of_ble_eq_true rfl), (Nat.le_of_ble_eq_true rfl)⟩ ⟨(by show _ ≤ 601024; omega), (by show _ ≤ 7293034; omega)⟩ e0) (fun h9 i124 H locs hR hS hf => ?_)
                                              refine lv_istore (lv' := [(5, .int i124), (0, .ref b), (1, .ref (xa E r1)), (2, .ref (xa E r2)), (3, .ref (xa E r3)), (4, .int x4)]) hx hb d1575 hl (by decide) rfl (fun ls hl => ?_)
                                              refine lv_aload_n hx hb d1577 rfl (lv_at hl 3 rfl) ?_
                                              refine lv_aload_n hx hb d1578 rfl (lv_at hl 1 rfl) ?_
                                              refine lv_iload hx hb d1579 (lv_at hl 5 rfl) ?_
                                              refine lv_iconst (v := 1) hx hb d1581 (by decide) ?_
                                              refine lv_iadd hx hb d1582 ?_
                                              obtain ⟨hin, hf⟩ := x_sl_el hf
                                              refine va_sld hx hb hX hbl hbA hS hin d1583 ?_
                                              refine lv_aload_n hx hb d1584 rfl (lv_at hl 1 rfl) ?_
                                              refine lv_iload hx hb d1585 (lv_at hl 5 rfl) ?_
                                              refine lv_iconst (v := 2) hx hb d1587 (by decide) ?_
                                              refine lv_iadd hx hb d1588 ?_
                                              obtain ⟨hin, hf⟩ := x_sl_el hf
                                              refine va_sld hx hb hX hbl hbA hS hin d1589 ?_
                                              obtain ⟨hs9, hf⟩ := x_if hf
                                              refine x_thenLI hS hf (fun z0 e0 => x_runV C0 hR hS me_X8_total wi_X8_total wl_X8_total ml_L_186 hs9 xcl_8 (As := [.int (xs ((x4 + 1) : Int32).toNatClampNeg), .int (xs ((x4 + 2) : Int32).toNatClampNeg)]) (ct_X8_total E l C0.2.2.2.2.2.2.2.1 _ r2 (xs ((x4 + 1) : Int32).toNatClampNeg) (xs ((x4 + 2) : Int32).toNatClampNeg)) rfl rfl hl.1 (Nat.le_of_ble_eq_true rfl) d1590 ⟨(Nat.le_of_ble_eq_true rfl), (Nat.le_of_ble_eq_true rfl)⟩ ⟨(by show _ ≤ 601024; omega), (by show _ ≤ 7293034; omega)⟩ e0) (fun h9 i126 H locs hR hS hf => ?_)
                                              refine lv_istore (lv' := [(6, .int i126), (5, .int i124), (0, .ref b), (1, .ref (xa E r1)), (2, .ref (xa E r2)), (3, .ref (xa E r3)), (4, .int x4)]) hx hb d1593 hl (by decide) rfl (fun ls hl => ?_)
                                              refine lv_aload_n hx hb d1595 rfl (lv_at hl 4 rfl) ?_
                                              obtain ⟨hs9, hf⟩ := x_if hf
                                              refine x_thenLI hS hf (fun z0 e0 => x_runV C0 hR hS me_X8_thrown wi_X8_thrown wl_X8_thrown ml_L_117 hs9 xcl_8 (As := []) (ct_X8_thrown E l C0.2.2.2.2.2.2.2.1 _ r2) rfl rfl hl.1 (Nat.le_of_ble_eq_true rfl) d1596 ⟨(Nat.le_of_ble_eq_true rfl), (Nat.le_of_ble_eq_true rfl)⟩ ⟨(by show _ ≤ 601024; omega), (by show _ ≤ 7293034; omega)⟩ e0) (fun h9 i128 H locs hR hS hf => ?_)
                                              refine lv_iload hx hb d1599 (lv_at hl 1 rfl) ?_
                                              refine lv_icmp_eq (tgt := 1606) hx hb d1601 (by decide) (fun q => ?_) (fun q => ?_)
                                              · have hf := x_pos q hf
                                                have h0 : x_by cL_law 1606 [21, 5, 154, 0, 15] := by unfold x_by; decide +kernel
                                                obtain ⟨d1606, h0⟩ := de_iload h0
                                                obtain ⟨d1608, h0⟩ := de_if_ne (15) (by decide) h0
                                                refine lv_iload hx hb d1606 (lv_at hl 1 rfl) ?_
                                                refine lv_if_ne (tgt := 1623) hx hb d1608 (by decide) (fun q => ?_) (fun q => ?_)
                                                · have hf := x_neg q hf
                                                  exact s_L_law_b1623 hE C0 hX hbl hbA hk23 _ _ _ _ _ _ _ _ _ _ (by omega) (by omega) hR hS (lv_sub hl [2, 3, 4, 5, 6] rfl) hf
                                                · have hf := x_pos q hf
                                                  have h0 : x_by cL_law 1611 [45, 3, 47, 21, 6, 133, 148, 153, 0, 5] := by unfold x_by; decide +kernel
                                                  obtain ⟨d1611, h0⟩ := de_aload_n3 h0
                                                  obtain ⟨d1612, h0⟩ := de_iconst_0 h0
                                                  obtain ⟨d1613, h0⟩ := de_laload h0
                                                  obtain ⟨d1614, h0⟩ := de_iload h0
                                                  obtain ⟨d1616, h0⟩ := de_i2l h0
                                                  obtain ⟨d1617, h0⟩ := de_lcmp h0
                                                  obtain ⟨d1618, h0⟩ := de_if_eq (5) (by decide) h0
                                                  refine lv_aload_n hx hb d1611 rfl (lv_at hl 5 rfl) ?_
                                                  refine lv_iconst (v := 0) hx hb d1612 (by decide) ?_
                                                  refine x_lald C0 hR hf d1613 (fun j130 hf => ?_)
                                                  refine lv_iload hx hb d1614 (lv_at hl 0 rfl) ?_
                                                  refine lv_i2l hx hb d1616 rfl ?_
                                                  refine W.lcmp hx hb d1617 ?_
                                                  refine lv_if_eq (tgt := 1623) hx hb d1618 (by decide) (fun q => ?_) (fun q => ?_)
                                                  · have hf := x_pos q hf
                                                    exact s_L_law_b1623 hE C0 hX hbl hbA hk23 _ _ _ _ _ _ _ _ _ _ (by omega) (by omega) hR hS (lv_sub hl [2, 3, 4, 5, 6] rfl) hf
                                                  · have hf := x_neg q hf
                                                    have h0 : x_by cL_law 1621 [3, 172] := by unfold x_by; decide +kernel
                                                    obtain ⟨d1621, h0⟩ := de_iconst_0 h0
                                                    obtain ⟨d1622, h0⟩ := de_ireturn h0
                                                    refine lv_iconst (v := 0) hx hb d1621 (by decide) ?_
                                                    cases hf
                                              · have hf := x_neg q hf
                                                have h0 : x_by cL_law 1604 [3, 172] := by unfold x_by; decide +kernel
                                                obtain ⟨d1604, h0⟩ := de_iconst_0 h0
                                                obtain ⟨d1605, h0⟩ := de_ireturn h0
                                                refine lv_iconst (v := 0) hx hb d1604 (by decide) ?_
                                                cases hf
                                            · have hf := x_neg q20 hf
                                              by_cases q21 : ((xs (x4 : Int32).toNatClampNeg) &&& 31) = 21
                                              · have hf := x_pos q21 hf
                                                refine lv_tableIn (tgt := 1626) hx hb d39 (by rw [q21]; decide) (by rw [q21]; decide) (by rw [q21]; first | done | rfl) (by decide) ?_
                                                have h0 : x_by cL_law 1626 [43, 42, 21, 4, 4, 96, 46, 45, 184, 0, 187, 54, 5, 44, 42, 21, 4, 4, 96, 46, 182, 0, 189, 54, 6, 44, 182, 0, 117, 21, 5, 159, 0, 5] := by unfold x_by; decide +kernel
                                                obtain ⟨d1626, h0⟩ := de_aload_n1 h0
                                                obtain ⟨d1627, h0⟩ := de_aload_n0 h0
                                                obtain ⟨d1628, h0⟩ := de_iload h0
                                                obtain ⟨d1630, h0⟩ := de_iconst_1 h0
                                                obtain ⟨d1631, h0⟩ := de_iadd h0
                                                obtain ⟨d1632, h0⟩ := de_iaload h0
                                                obtain ⟨d1633, h0⟩ := de_aload_n3 h0
                                                obtain ⟨d1634, h0⟩ := de_invokestatic 187 (by decide) h0
                                                obtain ⟨d1637, h0⟩ := de_istore h0
                                                obtain ⟨d1639, h0⟩ := de_aload_n2 h0
                                                obtain ⟨d1640, h0⟩ := de_aload_n0 h0
                                                obtain ⟨d1641, h0⟩ := de_iload h0
                                                obtain ⟨d1643, h0⟩ := de_iconst_1 h0
                                                obtain ⟨d1644, h0⟩ := de_iadd h0
                                                obtain ⟨d1645, h0⟩ := de_iaload h0
                                                obtain ⟨d1646, h0⟩ := de_invokevirtual 189 (by decide) h0
                                                obtain ⟨d1649, h0⟩ := de_istore h0
                                                obtain ⟨d1651, h0⟩ := de_aload_n2 h0
                                                obtain ⟨d1652, h0⟩ := de_invokevirtual 117 (by decide) h0
                                                obtain ⟨d1655, h0⟩ := de_iload h0
                                                obtain ⟨d1657, h0⟩ := de_icmp_eq (5) (by decide) h0
                                                refine lv_aload_n hx hb d1626 rfl (lv_at hl 1 rfl) ?_
                                                refine lv_aload_n hx hb d1627 rfl (lv_at hl 0 rfl) ?_
                                                refine lv_iload hx hb d1628 (lv_at hl 4 rfl) ?_
                                                refine lv_iconst (v := 1) hx hb d1630 (by decide) ?_
                                                refine lv_iadd hx hb d1631 ?_
                                                obtain ⟨hin, hf⟩ := x_sl_el hf
                                                refine va_sld hx hb hX hbl hbA hS hin d1632 ?_
                                                refine lv_aload_n hx hb d1633 rfl (lv_at hl 3 rfl) ?_
                                                refine x_thenLI hS hf (fun z0 e0 => x_runSX C0 hR hS me_L_free wt_L_free ml_L_187 (As := [.ref (xa E r1), .int (xs ((x4 + 1) : Int32).toNatClampNeg), .ref (xa E r3)]) (ct_L_free E l C0.2.2.2.2.2.2.2.1 _ r1 (xs ((x4 + 1) : Int32).toNatClampNeg) r3) rfl rfl hl.1 (Nat.le_of_ble_eq_true rfl) d1634 ⟨(Nat.le_of_ble_eq_true rfl), (Nat.le_of_ble_eq_true rfl)⟩ ⟨(by show _ ≤ 601024; omega), (by show _ ≤ 7293034; omega)⟩ e0) (fun h9 i131 H locs hR hS hf => ?_)
                                                refine lv_istore (lv' := [(5, .int i131), (0, .ref b), (1, .ref (xa E r1)), (2, .ref (xa E r2)), (3, .ref (xa E r3)), (4, .int x4)]) hx hb d1637 hl (by decide) rfl (fun ls hl => ?_)
                                                refine lv_aload_n hx hb d1639 rfl (lv_at hl 3 rfl) ?_
                                                refine lv_aload_n hx hb d1640 rfl (lv_at hl 1 rfl) ?_
                                                refine lv_iload hx hb d1641 (lv_at hl 5 rfl) ?_
                                                refine lv_iconst (v := 1) hx hb d1643 (by decide) ?_
                                                refine lv_iadd hx hb d1644 ?_
                                                obtain ⟨hin, hf⟩ := x_sl_el hf
                                                refine va_sld hx hb hX hbl hbA hS hin d1645 ?_
                                                obtain ⟨hs9, hf⟩ := x_if hf
                                                refine x_thenLI hS hf (fun z0 e0 => x_runV C0 hR hS me_X8_free wi_X8_free wl_X8_free ml_L_189 hs9 xcl_8 (As := [.int (xs ((x4 + 1) : Int32).toNatClampNeg)]) (ct_X8_free E l C0.2.2.2.2.2.2.2.1 _ r2 (xs ((x4 + 1) : Int32).toNatClampNeg)) rfl rfl hl.1 (Nat.le_of_ble_eq_true rfl) d1646 ⟨(Nat.le_of_ble_eq_true rfl), (Nat.le_of_ble_eq_true rfl)⟩ ⟨(by show _ ≤ 601024; omega), (by show _ ≤ 7293034; omega)⟩ e0) (fun h9 i133 H locs hR hS hf => ?_)
                                                refine lv_istore (lv' := [(6, .int i133), (5, .int i131), (0, .ref b), (1, .ref (xa E r1)), (2, .ref (xa E r2)), (3, .ref (xa E r3)), (4, .int x4)]) hx hb d1649 hl (by decide) rfl (fun ls hl => ?_)
                                                refine lv_aload_n hx hb d1651 rfl (lv_at hl 4 rfl) ?_
                                                obtain ⟨hs9, hf⟩ := x_if hf
                                                refine x_thenLI hS hf (fun z0 e0 => x_runV C0 hR hS me_X8_thrown wi_X8_thrown wl_X8_thrown ml_L_117 hs9 xcl_8 (As := []) (ct_X8_thrown E l C0.2.2.2.2.2.2.2.1 _ r2) rfl rfl hl.1 (Nat.le_of_ble_eq_true rfl) d1652 ⟨(Nat.le_of_ble_eq_true rfl), (Nat.le_of_ble_eq_true rfl)⟩ ⟨(by show _ ≤ 601024; omega), (by show _ ≤ 7293034; omega)⟩ e0) (fun h9 i135 H locs hR hS hf => ?_)
                                                refine lv_iload hx hb d1655 (lv_at hl 1 rfl) ?_
                                                refine lv_icmp_eq (tgt := 1662) hx hb d1657 (by decide) (fun q => ?_) (fun q => ?_)
                                                · have hf := x_pos q hf
                                                  have h0 : x_by cL_law 1662 [21, 5, 154, 0, 15] := by unfold x_by; decide +kernel
                                                  obtain ⟨d1662, h0⟩ := de_iload h0
                                                  obtain ⟨d1664, h0⟩ := de_if_ne (15) (by decide) h0
                                                  refine lv_iload hx hb d1662 (lv_at hl 1 rfl) ?_
                                                  refine lv_if_ne (tgt := 1679) hx hb d1664 (by decide) (fun q => ?_) (fun q => ?_)
                                                  · have hf := x_neg q hf
                                                    exact s_L_law_b1679 hE C0 hX hbl hbA hk23 _ _ _ _ _ _ _ _ _ _ (by omega) (by omega) hR hS (lv_sub hl [2, 3, 4, 5, 6] rfl) hf
                                                  · have hf := x_pos q hf
                                                    have h0 : x_by cL_law 1667 [45, 3, 47, 21, 6, 133, 148, 153, 0, 5] := by unfold x_by; decide +kernel
                                                    obtain ⟨d1667, h0⟩ := de_aload_n3 h0
                                                    obtain ⟨d1668, h0⟩ := de_iconst_0 h0
                                                    obtain ⟨d1669, h0⟩ := de_laload h0
                                                    obtain ⟨d1670, h0⟩ := de_iload h0
                                                    obtain ⟨d1672, h0⟩ := de_i2l h0
                                                    obtain ⟨d1673, h0⟩ := de_lcmp h0
                                                    obtain ⟨d1674, h0⟩ := de_if_eq (5) (by decide) h0
                                                    refine lv_aload_n hx hb d1667 rfl (lv_at hl 5 rfl) ?_
                                                    refine lv_iconst (v := 0) hx hb d1668 (by decide) ?_
                                                    refine x_lald C0 hR hf d1669 (fun j137 hf => ?_)
                                                    refine lv_iload hx hb d1670 (lv_at hl 0 rfl) ?_
                                                    refine lv_i2l hx hb d1672 rfl ?_
                                                    refine W.lcmp hx hb d1673 ?_
                                                    refine lv_if_eq (tgt := 1679) hx hb d1674 (by decide) (fun q => ?_) (fun q => ?_)
                                                    · have hf := x_pos q hf
                                                      exact s_L_law_b1679 hE C0 hX hbl hbA hk23 _ _ _ _ _ _ _ _ _ _ (by omega) (by omega) hR hS (lv_sub hl [2, 3, 4, 5, 6] rfl) hf
                                                    · have hf := x_neg q hf
                                                      have h0 : x_by cL_law 1677 [3, 172] := by unfold x_by; decide +kernel
                                                      obtain ⟨d1677, h0⟩ := de_iconst_0 h0
                                                      obtain ⟨d1678, h0⟩ := de_ireturn h0
                                                      refine lv_iconst (v := 0) hx hb d1677 (by decide) ?_
                                                      cases hf
                                                · have hf := x_neg q hf
                                                  have h0 : x_by cL_law 1660 [3, 172] := by unfold x_by; decide +kernel
                                                  obtain ⟨d1660, h0⟩ := de_iconst_0 h0
                                                  obtain ⟨d1661, h0⟩ := de_ireturn h0
                                                  refine lv_iconst (v := 0) hx hb d1660 (by decide) ?_
                                                  cases hf
                                              · have hf := x_neg q21 hf
                                                by_cases q22 : ((xs (x4 : Int32).toNatClampNeg) &&& 31) = 22
                                                · have hf := x_pos q22 hf
                                                  refine lv_tableIn (tgt := 1682) hx hb d39 (by rw [q22]; decide) (by rw [q22]; decide) (by rw [q22]; first | done | rfl) (by decide) ?_
                                                  have h0 : x_by cL_law 1682 [43, 42, 21, 4, 4, 96, 46, 42, 21, 4, 5, 96, 46, 42, 21, 4, 6, 96, 46, 45, 184, 0, 190, 54, 5, 44, 42, 21, 4, 4, 96, 46, 42, 21, 4, 5, 96, 46, 42, 21, 4, 6, 96, 46, 182, 0, 192, 54, 6, 44, 182, 0, 117, 21, 5, 159, 0, 5] := by unfold x_by; decide +kernel
                                                  obtain ⟨d1682, h0⟩ := de_aload_n1 h0
                                                  obtain ⟨d1683, h0⟩ := de_aload_n0 h0
                                                  obtain ⟨d1684, h0⟩ := de_iload h0
                                                  obtain ⟨d1686, h0⟩ := de_iconst_1 h0
                                                  obtain ⟨d1687, h0⟩ := de_iadd h0
                                                  obtain ⟨d1688, h0⟩ := de_iaload h0
                                                  obtain ⟨d1689, h0⟩ := de_aload_n0 h0
                                                  obtain ⟨d1690, h0⟩ := de_iload h0
                                                  obtain ⟨d1692, h0⟩ := de_iconst_2 h0
                                                  obtain ⟨d1693, h0⟩ := de_iadd h0
                                                  obtain ⟨d1694, h0⟩ := de_iaload h0
                                                  obtain ⟨d1695, h0⟩ := de_aload_n0 h0
                                                  obtain ⟨d1696, h0⟩ := de_iload h0
                                                  obtain ⟨d1698, h0⟩ := de_iconst_3 h0
                                                  obtain ⟨d1699, h0⟩ := de_iadd h0
                                                  obtain ⟨d1700, h0⟩ := de_iaload h0
                                                  obtain ⟨d1701, h0⟩ := de_aload_n3 h0
                                                  obtain ⟨d1702, h0⟩ := de_invokestatic 190 (by decide) h0
                                                  obtain ⟨d1705, h0⟩ := de_istore h0
                                                  obtain ⟨d1707, h0⟩ := de_aload_n2 h0
                                                  obtain ⟨d1708, h0⟩ := de_aload_n0 h0
                                                  obtain ⟨d1709, h0⟩ := de_iload h0
                                                  obtain ⟨d1711, h0⟩ := de_iconst_1 h0
                                                  obtain ⟨d1712, h0⟩ := de_iadd h0
                                                  obtain ⟨d1713, h0⟩ := de_iaload h0
                                                  obtain ⟨d1714, h0⟩ := de_aload_n0 h0
                                                  obtain ⟨d1715, h0⟩ := de_iload h0
                                                  obtain ⟨d1717, h0⟩ := de_iconst_2 h0
                                                  obtain ⟨d1718, h0⟩ := de_iadd h0
                                                  obtain ⟨d1719, h0⟩ := de_iaload h0
                                                  obtain ⟨d1720, h0⟩ := de_aload_n0 h0
                                                  obtain ⟨d1721, h0⟩ := de_iload h0
                                                  obtain ⟨d1723, h0⟩ := de_iconst_3 h0
                                                  obtain ⟨d1724, h0⟩ := de_iadd h0
                                                  obtain ⟨d1725, h0⟩ := de_iaload h0
                                                  obtain ⟨d1726, h0⟩ := de_invokevirtual 192 (by decide) h0
                                                  obtain ⟨d1729, h0⟩ := de_istore h0
                                                  obtain ⟨d1731, h0⟩ := de_aload_n2 h0
                                                  obtain ⟨d1732, h0⟩ := de_invokevirtual 117 (by decide) h0
                                                  obtain ⟨d1735, h0⟩ := de_iload h0
                                                  obtain ⟨d1737, h0⟩ := de_icmp_eq (5) (by decide) h0
                                                  refine lv_aload_n hx hb d1682 rfl (lv_at hl 1 rfl) ?_
                                                  refine lv_aload_n hx hb d1683 rfl (lv_at hl 0 rfl) ?_
                                                  refine lv_iload hx hb d1684 (lv_at hl 4 rfl) ?_
                                                  refine lv_iconst (v := 1) hx hb d1686 (by decide) ?_
                                                  refine lv_iadd hx hb d1687 ?_
                                                  obtain ⟨hin, hf⟩ := x_sl_el hf
                                                  refine va_sld hx hb hX hbl hbA hS hin d1688 ?_
                                                  refine lv_aload_n hx hb d1689 rfl (lv_at hl 0 rfl) ?_
                                                  refine lv_iload hx hb d1690 (lv_at hl 4 rfl) ?_
                                                  refine lv_iconst (v := 2) hx hb d1692 (by decide) ?_
                                                  refine lv_iadd hx hb d1693 ?_
                                                  obtain ⟨hin, hf⟩ := x_sl_el hf
                                                  refine va_sld hx hb hX hbl hbA hS hin d1694 ?_
                                                  refine lv_aload_n hx hb d1695 rfl (lv_at hl 0 rfl) ?_
                                                  refine lv_iload hx hb d1696 (lv_at hl 4 rfl) ?_
                                                  refine lv_iconst (v := 3) hx hb d1698 (by decide) ?_
                                                  refine lv_iadd hx hb d1699 ?_
                                                  obtain ⟨hin, hf⟩ := x_sl_el hf
                                                  refine va_sld hx hb hX hbl hbA hS hin d1700 ?_
                                                  refine lv_aload_n hx hb d1701 rfl (lv_at hl 3 rfl) ?_
                                                  refine x_thenLI hS hf (fun z0 e0 => x_runSX C0 hR hS me_L_box wt_L_box ml_L_190 (As := [.ref (xa E r1), .int (xs ((x4 + 1) : Int32).toNatClampNeg), .int (xs ((x4 + 2) : Int32).toNatClampNeg), .int (xs ((x4 + 3) : Int32).toNatClampNeg), .ref (xa E r3)]) (ct_L_box E l C0.2.2.2.2.2.2.2.1 _ r1 (xs ((x4 + 1) : Int32).toNatClampNeg) (xs ((x4 + 2) : Int32).toNatClampNeg) (xs ((x4 + 3) : Int32).toNatClampNeg) r3) rfl rfl hl.1 (Nat.le_of_ble_eq_true rfl) d1702 ⟨(Nat.le_of_ble_eq_true rfl), (Nat.le_of_ble_eq_true rfl)⟩ ⟨(by show _ ≤ 601024; omega), (by show _ ≤ 7293034; omega)⟩ e0) (fun h9 i138 H locs hR hS hf => ?_)
                                                  refine lv_istore (lv' := [(5, .int i138), (0, .ref b), (1, .ref (xa E r1)), (2, .ref (xa E r2)), (3, .ref (xa E r3)), (4, .int x4)]) hx hb d1705 hl (by decide) rfl (fun ls hl => ?_)
                                                  refine lv_aload_n hx hb d1707 rfl (lv_at hl 3 rfl) ?_
                                                  refine lv_aload_n hx hb d1708 rfl (lv_at hl 1 rfl) ?_
                                                  refine lv_iload hx hb d1709 (lv_at hl 5 rfl) ?_
                                                  refine lv_iconst (v := 1) hx hb d1711 (by decide) ?_
                                                  refine lv_iadd hx hb d1712 ?_
                                                  obtain ⟨hin, hf⟩ := x_sl_el hf
                                                  refine va_sld hx hb hX hbl hbA hS hin d1713 ?_
                                                  refine lv_aload_n hx hb d1714 rfl (lv_at hl 1 rfl) ?_
                                                  refine lv_iload hx hb d1715 (lv_at hl 5 rfl) ?_
                                                  refine lv_iconst (v := 2) hx hb d1717 (by decide) ?_
                                                  refine lv_iadd hx hb d1718 ?_
                                                  obtain ⟨hin, hf⟩ := x_sl_el hf
                                                  refine va_sld hx hb hX hbl hbA hS hin d1719 ?_
                                                  refine lv_aload_n hx hb d1720 rfl (lv_at hl 1 rfl) ?_
                                                  refine lv_iload hx hb d1721 (lv_at hl 5 rfl) ?_
                                                  refine lv_iconst (v := 3) hx hb d1723 (by decide) ?_
                                                  refine lv_iadd hx hb d1724 ?_
                                                  obtain ⟨hin, hf⟩ := x_sl_el hf
                                                  refine va_sld hx hb hX hbl hbA hS hin d1725 ?_
                                                  obtain ⟨hs9, hf⟩ := x_if hf
                                                  refine x_thenLI hS hf (fun z0 e0 => x_runV C0 hR hS me_X8_box wi_X8_box wl_X8_box ml_L_192 hs9 xcl_8 (As := [.int (xs ((x4 + 1) : Int32).toNatClampNeg), .int (xs ((x4 + 2) : Int32).toNatClampNeg), .int (xs ((x4 + 3) : Int32).toNatClampNeg)]) (ct_X8_box E l C0.2.2.2.2.2.2.2.1 _ r2 (xs ((x4 + 1) : Int32).toNatClampNeg) (xs ((x4 + 2) : Int32).toNatClampNeg) (xs ((x4 + 3) : Int32).toNatClampNeg)) rfl rfl hl.1 (Nat.le_of_ble_eq_true rfl) d1726 ⟨(Nat.le_of_ble_eq_true rfl), (Nat.le_of_ble_eq_true rfl)⟩ ⟨(by show _ ≤ 601024; omega), (by show _ ≤ 7293034; omega)⟩ e0) (fun h9 i140 H locs hR hS hf => ?_)
                                                  refine lv_istore (lv' := [(6, .int i140), (5, .int i138), (0, .ref b), (1, .ref (xa E r1)), (2, .ref (xa E r2)), (3, .ref (xa E r3)), (4, .int x4)]) hx hb d1729 hl (by decide) rfl (fun ls hl => ?_)
                                                  refine lv_aload_n hx hb d1731 rfl (lv_at hl 4 rfl) ?_
                                                  obtain ⟨hs9, hf⟩ := x_if hf
                                                  refine x_thenLI hS hf (fun z0 e0 => x_runV C0 hR hS me_X8_thrown wi_X8_thrown wl_X8_thrown ml_L_117 hs9 xcl_8 (As := []) (ct_X8_thrown E l C0.2.2.2.2.2.2.2.1 _ r2) rfl rfl hl.1 (Nat.le_of_ble_eq_true rfl) d1732 ⟨(Nat.le_of_ble_eq_true rfl), (Nat.le_of_ble_eq_true rfl)⟩ ⟨(by show _ ≤ 601024; omega), (by show _ ≤ 7293034; omega)⟩ e0) (fun h9 i142 H locs hR hS hf => ?_)
                                                  refine lv_iload hx hb d1735 (lv_at hl 1 rfl) ?_
                                                  refine lv_icmp_eq (tgt := 1742) hx hb d1737 (by decide) (fun q => ?_) (fun q => ?_)
                                                  · have hf := x_pos q hf
                                                    have h0 : x_by cL_law 1742 [21, 5, 154, 0, 15] := by unfold x_by; decide +kernel
                                                    obtain ⟨d1742, h0⟩ := de_iload h0
                                                    obtain ⟨d1744, h0⟩ := de_if_ne (15) (by decide) h0
                                                    refine lv_iload hx hb d1742 (lv_at hl 1 rfl) ?_
                                                    refine lv_if_ne (tgt := 1759) hx hb d1744 (by decide) (fun q => ?_) (fun q => ?_)
                                                    · have hf := x_neg q hf
                                                      exact s_L_law_b1759 hE C0 hX hbl hbA hk23 _ _ _ _ _ _ _ _ _ _ (by omega) (by omega) hR hS (lv_sub hl [2, 3, 4, 5, 6] rfl) hf
                                                    · have hf := x_pos q hf
                                                      have h0 : x_by cL_law 1747 [45, 3, 47, 21, 6, 133, 148, 153, 0, 5] := by unfold x_by; decide +kernel
                                                      obtain ⟨d1747, h0⟩ := de_aload_n3 h0
                                                      obtain ⟨d1748, h0⟩ := de_iconst_0 h0
                                                      obtain ⟨d1749, h0⟩ := de_laload h0
                                                      obtain ⟨d1750, h0⟩ := de_iload h0
                                                      obtain ⟨d1752, h0⟩ := de_i2l h0
                                                      obtain ⟨d1753, h0⟩ := de_lcmp h0
                                                      obtain ⟨d1754, h0⟩ := de_if_eq (5) (by decide) h0
                                                      refine lv_aload_n hx hb d1747 rfl (lv_at hl 5 rfl) ?_
                                                      refine lv_iconst (v := 0) hx hb d1748 (by decide) ?_
                                                      refine x_lald C0 hR hf d1749 (fun j144 hf => ?_)
                                                      refine lv_iload hx hb d1750 (lv_at hl 0 rfl) ?_
                                                      refine lv_i2l hx hb d1752 rfl ?_
                                                      refine W.lcmp hx hb d1753 ?_
                                                      refine lv_if_eq (tgt := 1759) hx hb d1754 (by decide) (fun q => ?_) (fun q => ?_)
                                                      · have hf := x_pos q hf
                                                        exact s_L_law_b1759 hE C0 hX hbl hbA hk23 _ _ _ _ _ _ _ _ _ _ (by omega) (by omega) hR hS (lv_sub hl [2, 3, 4, 5, 6] rfl) hf
                                                      · have hf := x_neg q hf
                                                        have h0 : x_by cL_law 1757 [3, 172] := by unfold x_by; decide +kernel
                                                        obtain ⟨d1757, h0⟩ := de_iconst_0 h0
                                                        obtain ⟨d1758, h0⟩ := de_ireturn h0
                                                        refine lv_iconst (v := 0) hx hb d1757 (by decide) ?_
                                                        cases hf
                                                  · have hf := x_neg q hf
                                                    have h0 : x_by cL_law 1740 [3, 172] := by unfold x_by; decide +kernel
                                                    obtain ⟨d1740, h0⟩ := de_iconst_0 h0
                                                    obtain ⟨d1741, h0⟩ := de_ireturn h0
                                                    refine lv_iconst (v := 0) hx hb d1740 (by decide) ?_
                                                    cases hf
                                                · have hf := x_neg q22 hf
                                                  by_cases q23 : ((xs (x4 : Int32).toNatClampNeg) &&& 31) = 23
                                                  · have hf := x_pos q23 hf
                                                    refine lv_tableIn (tgt := 1762) hx hb d39 (by rw [q23]; decide) (by rw [q23]; decide) (by rw [q23]; first | done | rfl) (by decide) ?_
                                                    have h0 : x_by cL_law 1762 [43, 42, 21, 4, 4, 96, 46, 42, 21, 4, 5, 96, 46, 153, 0, 7] := by unfold x_by; decide +kernel
                                                    obtain ⟨d1762, h0⟩ := de_aload_n1 h0
                                                    obtain ⟨d1763, h0⟩ := de_aload_n0 h0
                                                    obtain ⟨d1764, h0⟩ := de_iload h0
                                                    obtain ⟨d1766, h0⟩ := de_iconst_1 h0
                                                    obtain ⟨d1767, h0⟩ := de_iadd h0
                                                    obtain ⟨d1768, h0⟩ := de_iaload h0
                                                    obtain ⟨d1769, h0⟩ := de_aload_n0 h0
                                                    obtain ⟨d1770, h0⟩ := de_iload h0
                                                    obtain ⟨d1772, h0⟩ := de_iconst_2 h0
                                                    obtain ⟨d1773, h0⟩ := de_iadd h0
                                                    obtain ⟨d1774, h0⟩ := de_iaload h0
                                                    obtain ⟨d1775, h0⟩ := de_if_eq (7) (by decide) h0
                                                    refine lv_aload_n hx hb d1762 rfl (lv_at hl 1 rfl) ?_
                                                    refine lv_aload_n hx hb d1763 rfl (lv_at hl 0 rfl) ?_
                                                    refine lv_iload hx hb d1764 (lv_at hl 4 rfl) ?_
                                                    refine lv_iconst (v := 1) hx hb d1766 (by decide) ?_
                                                    refine lv_iadd hx hb d1767 ?_
                                                    obtain ⟨hin, hf⟩ := x_sl_el hf
                                                    refine va_sld hx hb hX hbl hbA hS hin d1768 ?_
                                                    refine lv_aload_n hx hb d1769 rfl (lv_at hl 0 rfl) ?_
                                                    refine lv_iload hx hb d1770 (lv_at hl 4 rfl) ?_
                                                    refine lv_iconst (v := 2) hx hb d1772 (by decide) ?_
                                                    refine lv_iadd hx hb d1773 ?_
                                                    obtain ⟨hin, hf⟩ := x_sl_el hf
                                                    refine va_sld hx hb hX hbl hbA hS hin d1774 ?_
                                                    refine lv_if_eq (tgt := 1782) hx hb d1775 (by decide) (fun q => ?_) (fun q => ?_)
                                                    · have hf := x_pos q hf
                                                      have h0 : x_by cL_law 1782 [3] := by unfold x_by; decide +kernel
                                                      obtain ⟨d1782, h0⟩ := de_iconst_0 h0
                                                      refine lv_iconst (v := 0) hx hb d1782 (by decide) ?_
                                                      exact s_L_law_b1783 hE C0 hX hbl hbA hk23 _ _ _ _ _ _ _ _ _ _ _ _ _ (by omega) (by omega) hR hS (lv_sub hl [0, 1, 2, 3, 4] rfl) hf
                                                    · have hf := x_neg q hf
                                                      have h0 : x_by cL_law 1778 [4, 167, 0, 4] := by unfold x_by; decide +kernel
                                                      obtain ⟨d1778, h0⟩ := de_iconst_1 h0
                                                      obtain ⟨d1779, h0⟩ := de_goto (4) (by decide) h0
                                                      refine lv_iconst (v := 1) hx hb d1778 (by decide) ?_
                                                      refine lv_goto (tgt := 1783) hx hb d1779 (by decide) ?_
                                                      exact s_L_law_b1783 hE C0 hX hbl hbA hk23 _ _ _ _ _ _ _ _ _ _ _ _ _ (by omega) (by omega) hR hS (lv_sub hl [0, 1, 2, 3, 4] rfl) hf
                                                  · have hf := x_neg q23 hf
                                                    by_cases q24 : ((xs (x4 : Int32).toNatClampNeg) &&& 31) = 24
                                                    · have hf := x_pos q24 hf
                                                      refine lv_tableIn (tgt := 1846) hx hb d39 (by rw [q24]; decide) (by rw [q24]; decide) (by rw [q24]; first | done | rfl) (by decide) ?_
                                                      have h0 : x_by cL_law 1846 [43, 42, 21, 4, 4, 96, 46, 42, 21, 4, 5, 96, 46, 45, 184, 0, 196, 54, 5, 44, 42, 21, 4, 4, 96, 46, 42, 21, 4, 5, 96, 46, 182, 0, 198, 54, 6, 44, 182, 0, 117, 21, 5, 159, 0, 5] := by unfold x_by; decide +kernel
                                                      obtain ⟨d1846, h0⟩ := de_aload_n1 h0
                                                      obtain ⟨d1847, h0⟩ := de_aload_n0 h0
                                                      obtain ⟨d1848, h0⟩ := de_iload h0
                                                      obtain ⟨d1850, h0⟩ := de_iconst_1 h0
                                                      obtain ⟨d1851, h0⟩ := de_iadd h0
                                                      obtain ⟨d1852, h0⟩ := de_iaload h0
                                                      obtain ⟨d1853, h0⟩ := de_aload_n0 h0
                                                      obtain ⟨d1854, h0⟩ := de_iload h0
                                                      obtain ⟨d1856, h0⟩ := de_iconst_2 h0
                                                      obtain ⟨d1857, h0⟩ := de_iadd h0
                                                      obtain ⟨d1858, h0⟩ := de_iaload h0
                                                      obtain ⟨d1859, h0⟩ := de_aload_n3 h0
                                                      obtain ⟨d1860, h0⟩ := de_invokestatic 196 (by decide) h0
                                                      obtain ⟨d1863, h0⟩ := de_istore h0
                                                      obtain ⟨d1865, h0⟩ := de_aload_n2 h0
                                                      obtain ⟨d1866, h0⟩ := de_aload_n0 h0
                                                      obtain ⟨d1867, h0⟩ := de_iload h0
                                                      obtain ⟨d1869, h0⟩ := de_iconst_1 h0
                                                      obtain ⟨d1870, h0⟩ := de_iadd h0
                                                      obtain ⟨d1871, h0⟩ := de_iaload h0
                                                      obtain ⟨d1872, h0⟩ := de_aload_n0 h0
                                                      obtain ⟨d1873, h0⟩ := de_iload h0
                                                      obtain ⟨d1875, h0⟩ := de_iconst_2 h0
                                                      obtain ⟨d1876, h0⟩ := de_iadd h0
                                                      obtain ⟨d1877, h0⟩ := de_iaload h0
                                                      obtain ⟨d1878, h0⟩ := de_invokevirtual 198 (by decide) h0
                                                      obtain ⟨d1881, h0⟩ := de_istore h0
                                                      obtain ⟨d1883, h0⟩ := de_aload_n2 h0
                                                      obtain ⟨d1884, h0⟩ := de_invokevirtual 117 (by decide) h0
                                                      obtain ⟨d1887, h0⟩ := de_iload h0
                                                      obtain ⟨d1889, h0⟩ := de_icmp_eq (5) (by decide) h0
                                                      refine lv_aload_n hx hb d1846 rfl (lv_at hl 1 rfl) ?_
                                                      refine lv_aload_n hx hb d1847 rfl (lv_at hl 0 rfl) ?_
                                                      refine lv_iload hx hb d1848 (lv_at hl 4 rfl) ?_
                                                      refine lv_iconst (v := 1) hx hb d1850 (by decide) ?_
                                                      refine lv_iadd hx hb d1851 ?_
                                                      obtain ⟨hin, hf⟩ := x_sl_el hf
                                                      refine va_sld hx hb hX hbl hbA hS hin d1852 ?_
                                                      refine lv_aload_n hx hb d1853 rfl (lv_at hl 0 rfl) ?_
                                                      refine lv_iload hx hb d1854 (lv_at hl 4 rfl) ?_
                                                      refine lv_iconst (v := 2) hx hb d1856 (by decide) ?_
                                                      refine lv_iadd hx hb d1857 ?_
                                                      obtain ⟨hin, hf⟩ := x_sl_el hf
                                                      refine va_sld hx hb hX hbl hbA hS hin d1858 ?_
                                                      refine lv_aload_n hx hb d1859 rfl (lv_at hl 3 rfl) ?_
                                                      refine x_thenLI hS hf (fun z0 e0 => x_runSX C0 hR hS me_L_itemUnder wt_L_itemUnder ml_L_196 (As := [.ref (xa E r1), .int (xs ((x4 + 1) : Int32).toNatClampNeg), .int (xs ((x4 + 2) : Int32).toNatClampNeg), .ref (xa E r3)]) (ct_L_itemUnder E l C0.2.2.2.2.2.2.2.1 _ r1 (xs ((x4 + 1) : Int32).toNatClampNeg) (xs ((x4 + 2) : Int32).toNatClampNeg) r3) rfl rfl hl.1 (Nat.le_of_ble_eq_true rfl) d1860 ⟨(Nat.le_of_ble_eq_true rfl), (Nat.le_of_ble_eq_true rfl)⟩ ⟨(by show _ ≤ 601024; omega), (by show _ ≤ 7293034; omega)⟩ e0) (fun h9 i145 H locs hR hS hf => ?_)
                                                      refine lv_istore (lv' := [(5, .int i145), (0, .ref b), (1, .ref (xa E r1)), (2, .ref (xa E r2)), (3, .ref (xa E r3)), (4, .int x4)]) hx hb d1863 hl (by decide) rfl (fun ls hl => ?_)
                                                      refine lv_aload_n hx hb d1865 rfl (lv_at hl 3 rfl) ?_
                                                      refine lv_aload_n hx hb d1866 rfl (lv_at hl 1 rfl) ?_
                                                      refine lv_iload hx hb d1867 (lv_at hl 5 rfl) ?_
                                                      refine lv_iconst (v := 1) hx hb d1869 (by decide) ?_
                                                      refine lv_iadd hx hb d1870 ?_
                                                      obtain ⟨hin, hf⟩ := x_sl_el hf
                                                      refine va_sld hx hb hX hbl hbA hS hin d1871 ?_
                                                      refine lv_aload_n hx hb d1872 rfl (lv_at hl 1 rfl) ?_
                                                      refine lv_iload hx hb d1873 (lv_at hl 5 rfl) ?_
                                                      refine lv_iconst (v := 2) hx hb d1875 (by decide) ?_
                                                      refine lv_iadd hx hb d1876 ?_
                                                      obtain ⟨hin, hf⟩ := x_sl_el hf
                                                      refine va_sld hx hb hX hbl hbA hS hin d1877 ?_
                                                      obtain ⟨hs9, hf⟩ := x_if hf
                                                      refine x_thenLI hS hf (fun z0 e0 => x_runV C0 hR hS me_X8_itemUnder wi_X8_itemUnder wl_X8_itemUnder ml_L_198 hs9 xcl_8 (As := [.int (xs ((x4 + 1) : Int32).toNatClampNeg), .int (xs ((x4 + 2) : Int32).toNatClampNeg)]) (ct_X8_itemUnder E l C0.2.2.2.2.2.2.2.1 _ r2 (xs ((x4 + 1) : Int32).toNatClampNeg) (xs ((x4 + 2) : Int32).toNatClampNeg)) rfl rfl hl.1 (Nat.le_of_ble_eq_true rfl) d1878 ⟨(Nat.le_of_ble_eq_true rfl), (Nat.le_of_ble_eq_true rfl)⟩ ⟨(by show _ ≤ 601024; omega), (by show _ ≤ 7293034; omega)⟩ e0) (fun h9 i147 H locs hR hS hf => ?_)
                                                      refine lv_istore (lv' := [(6, .int i147), (5, .int i145), (0, .ref b), (1, .ref (xa E r1)), (2, .ref (xa E r2)), (3, .ref (xa E r3)), (4, .int x4)]) hx hb d1881 hl (by decide) rfl (fun ls hl => ?_)
                                                      refine lv_aload_n hx hb d1883 rfl (lv_at hl 4 rfl) ?_
                                                      obtain ⟨hs9, hf⟩ := x_if hf
                                                      refine x_thenLI hS hf (fun z0 e0 => x_runV C0 hR hS me_X8_thrown wi_X8_thrown wl_X8_thrown ml_L_117 hs9 xcl_8 (As := []) (ct_X8_thrown E l C0.2.2.2.2.2.2.2.1 _ r2) rfl rfl hl.1 (Nat.le_of_ble_eq_true rfl) d1884 ⟨(Nat.le_of_ble_eq_true rfl), (Nat.le_of_ble_eq_true rfl)⟩ ⟨(by show _ ≤ 601024; omega), (by show _ ≤ 7293034; omega)⟩ e0) (fun h9 i149 H locs hR hS hf => ?_)
                                                      refine lv_iload hx hb d1887 (lv_at hl 1 rfl) ?_
                                                      refine lv_icmp_eq (tgt := 1894) hx hb d1889 (by decide) (fun q => ?_) (fun q => ?_)
                                                      · have hf := x_pos q hf
                                                        have h0 : x_by cL_law 1894 [21, 5, 154, 0, 15] := by unfold x_by; decide +kernel
                                                        obtain ⟨d1894, h0⟩ := de_iload h0
                                                        obtain ⟨d1896, h0⟩ := de_if_ne (15) (by decide) h0
                                                        refine lv_iload hx hb d1894 (lv_at hl 1 rfl) ?_
                                                        refine lv_if_ne (tgt := 1911) hx hb d1896 (by decide) (fun q => ?_) (fun q => ?_)
                                                        · have hf := x_neg q hf
                                                          exact s_L_law_b1911 hE C0 hX hbl hbA hk23 _ _ _ _ _ _ _ _ _ _ (by omega) (by omega) hR hS (lv_sub hl [2, 3, 4, 5, 6] rfl) hf
                                                        · have hf := x_pos q hf
                                                          have h0 : x_by cL_law 1899 [45, 3, 47, 21, 6, 133, 148, 153, 0, 5] := by unfold x_by; decide +kernel
                                                          obtain ⟨d1899, h0⟩ := de_aload_n3 h0
                                                          obtain ⟨d1900, h0⟩ := de_iconst_0 h0
                                                          obtain ⟨d1901, h0⟩ := de_laload h0
                                                          obtain ⟨d1902, h0⟩ := de_iload h0
                                                          obtain ⟨d1904, h0⟩ := de_i2l h0
                                                          obtain ⟨d1905, h0⟩ := de_lcmp h0
                                                          obtain ⟨d1906, h0⟩ := de_if_eq (5) (by decide) h0
                                                          refine lv_aload_n hx hb d1899 rfl (lv_at hl 5 rfl) ?_
                                                          refine lv_iconst (v := 0) hx hb d1900 (by decide) ?_
                                                          refine x_lald C0 hR hf d1901 (fun j151 hf => ?_)
                                                          refine lv_iload hx hb d1902 (lv_at hl 0 rfl) ?_
                                                          refine lv_i2l hx hb d1904 rfl ?_
                                                          refine W.lcmp hx hb d1905 ?_
                                                          refine lv_if_eq (tgt := 1911) hx hb d1906 (by decide) (fun q => ?_) (fun q => ?_)
                                                          · have hf := x_pos q hf
                                                            exact s_L_law_b1911 hE C0 hX hbl hbA hk23 _ _ _ _ _ _ _ _ _ _ (by omega) (by omega) hR hS (lv_sub hl [2, 3, 4, 5, 6] rfl) hf
                                                          · have hf := x_neg q hf
                                                            have h0 : x_by cL_law 1909 [3, 172] := by unfold x_by; decide +kernel
                                                            obtain ⟨d1909, h0⟩ := de_iconst_0 h0
                                                            obtain ⟨d1910, h0⟩ := de_ireturn h0
                                                            refine lv_iconst (v := 0) hx hb d1909 (by decide) ?_
                                                            cases hf
                                                      · have hf := x_neg q hf
                                                        have h0 : x_by cL_law 1892 [3, 172] := by unfold x_by; decide +kernel
                                                        obtain ⟨d1892, h0⟩ := de_iconst_0 h0
                                                        obtain ⟨d1893, h0⟩ := de_ireturn h0
                                                        refine lv_iconst (v := 0) hx hb d1892 (by decide) ?_
                                                        cases hf
                                                    · have hf := x_neg q24 hf
                                                      by_cases q25 : ((xs (x4 : Int32).toNatClampNeg) &&& 31) = 25
                                                      · have hf := x_pos q25 hf
                                                        refine lv_tableIn (tgt := 1914) hx hb d39 (by rw [q25]; decide) (by rw [q25]; decide) (by rw [q25]; first | done | rfl) (by decide) ?_
                                                        have h0 : x_by cL_law 1914 [43, 42, 21, 4, 4, 96, 46, 45, 184, 0, 199, 54, 5, 44, 42, 21, 4, 4, 96, 46, 182, 0, 201, 54, 6, 44, 182, 0, 117, 21, 5, 159, 0, 5] := by unfold x_by; decide +kernel
                                                        obtain ⟨d1914, h0⟩ := de_aload_n1 h0
                                                        obtain ⟨d1915, h0⟩ := de_aload_n0 h0
                                                        obtain ⟨d1916, h0⟩ := de_iload h0
                                                        obtain ⟨d1918, h0⟩ := de_iconst_1 h0
                                                        obtain ⟨d1919, h0⟩ := de_iadd h0
                                                        obtain ⟨d1920, h0⟩ := de_iaload h0
                                                        obtain ⟨d1921, h0⟩ := de_aload_n3 h0
                                                        obtain ⟨d1922, h0⟩ := de_invokestatic 199 (by decide) h0
                                                        obtain ⟨d1925, h0⟩ := de_istore h0
                                                        obtain ⟨d1927, h0⟩ := de_aload_n2 h0
                                                        obtain ⟨d1928, h0⟩ := de_aload_n0 h0
                                                        obtain ⟨d1929, h0⟩ := de_iload h0
                                                        obtain ⟨d1931, h0⟩ := de_iconst_1 h0
                                                        obtain ⟨d1932, h0⟩ := de_iadd h0
                                                        obtain ⟨d1933, h0⟩ := de_iaload h0
                                                        obtain ⟨d1934, h0⟩ := de_invokevirtual 201 (by decide) h0
                                                        obtain ⟨d1937, h0⟩ := de_istore h0
                                                        obtain ⟨d1939, h0⟩ := de_aload_n2 h0
                                                        obtain ⟨d1940, h0⟩ := de_invokevirtual 117 (by decide) h0
                                                        obtain ⟨d1943, h0⟩ := de_iload h0
                                                        obtain ⟨d1945, h0⟩ := de_icmp_eq (5) (by decide) h0
                                                        refine lv_aload_n hx hb d1914 rfl (lv_at hl 1 rfl) ?_
                                                        refine lv_aload_n hx hb d1915 rfl (lv_at hl 0 rfl) ?_
                                                        refine lv_iload hx hb d1916 (lv_at hl 4 rfl) ?_
                                                        refine lv_iconst (v := 1) hx hb d1918 (by decide) ?_
                                                        refine lv_iadd hx hb d1919 ?_
                                                        obtain ⟨hin, hf⟩ := x_sl_el hf
                                                        refine va_sld hx hb hX hbl hbA hS hin d1920 ?_
                                                        refine lv_aload_n hx hb d1921 rfl (lv_at hl 3 rfl) ?_
                                                        refine x_thenLI hS hf (fun z0 e0 => x_runSX C0 hR hS me_L_save wt_L_save ml_L_199 (As := [.ref (xa E r1), .int (xs ((x4 + 1) : Int32).toNatClampNeg), .ref (xa E r3)]) (ct_L_save E l C0.2.2.2.2.2.2.2.1 _ r1 (xs ((x4 + 1) : Int32).toNatClampNeg) r3) rfl rfl hl.1 (Nat.le_of_ble_eq_true rfl) d1922 ⟨(Nat.le_of_ble_eq_true rfl), (Nat.le_of_ble_eq_true rfl)⟩ ⟨(by show _ ≤ 601024; omega), (by show _ ≤ 7293034; omega)⟩ e0) (fun h9 i152 H locs hR hS hf => ?_)
                                                        refine lv_istore (lv' := [(5, .int i152), (0, .ref b), (1, .ref (xa E r1)), (2, .ref (xa E r2)), (3, .ref (xa E r3)), (4, .int x4)]) hx hb d1925 hl (by decide) rfl (fun ls hl => ?_)
                                                        refine lv_aload_n hx hb d1927 rfl (lv_at hl 3 rfl) ?_
                                                        refine lv_aload_n hx hb d1928 rfl (lv_at hl 1 rfl) ?_
                                                        refine lv_iload hx hb d1929 (lv_at hl 5 rfl) ?_
                                                        refine lv_iconst (v := 1) hx hb d1931 (by decide) ?_
                                                        refine lv_iadd hx hb d1932 ?_
                                                        obtain ⟨hin, hf⟩ := x_sl_el hf
                                                        refine va_sld hx hb hX hbl hbA hS hin d1933 ?_
                                                        obtain ⟨hs9, hf⟩ := x_if hf
                                                        refine x_thenLI hS hf (fun z0 e0 => x_runV C0 hR hS me_X8_save wi_X8_save wl_X8_save ml_L_201 hs9 xcl_8 (As := [.int (xs ((x4 + 1) : Int32).toNatClampNeg)]) (ct_X8_save E l C0.2.2.2.2.2.2.2.1 _ r2 (xs ((x4 + 1) : Int32).toNatClampNeg)) rfl rfl hl.1 (Nat.le_of_ble_eq_true rfl) d1934 ⟨(Nat.le_of_ble_eq_true rfl), (Nat.le_of_ble_eq_true rfl)⟩ ⟨(by show _ ≤ 601024; omega), (by show _ ≤ 7293034; omega)⟩ e0) (fun h9 i154 H locs hR hS hf => ?_)
                                                        refine lv_istore (lv' := [(6, .int i154), (5, .int i152), (0, .ref b), (1, .ref (xa E r1)), (2, .ref (xa E r2)), (3, .ref (xa E r3)), (4, .int x4)]) hx hb d1937 hl (by decide) rfl (fun ls hl => ?_)
                                                        refine lv_aload_n hx hb d1939 rfl (lv_at hl 4 rfl) ?_
                                                        obtain ⟨hs9, hf⟩ := x_if hf
                                                        refine x_thenLI hS hf (fun z0 e0 => x_runV C0 hR hS me_X8_thrown wi_X8_thrown wl_X8_thrown ml_L_117 hs9 xcl_8 (As := []) (ct_X8_thrown E l C0.2.2.2.2.2.2.2.1 _ r2) rfl rfl hl.1 (Nat.le_of_ble_eq_true rfl) d1940 ⟨(Nat.le_of_ble_eq_true rfl), (Nat.le_of_ble_eq_true rfl)⟩ ⟨(by show _ ≤ 601024; omega), (by show _ ≤ 7293034; omega)⟩ e0) (fun h9 i156 H locs hR hS hf => ?_)
                                                        refine lv_iload hx hb d1943 (lv_at hl 1 rfl) ?_
                                                        refine lv_icmp_eq (tgt := 1950) hx hb d1945 (by decide) (fun q => ?_) (fun q => ?_)
                                                        · have hf := x_pos q hf
                                                          have h0 : x_by cL_law 1950 [21, 5, 154, 0, 15] := by unfold x_by; decide +kernel
                                                          obtain ⟨d1950, h0⟩ := de_iload h0
                                                          obtain ⟨d1952, h0⟩ := de_if_ne (15) (by decide) h0
                                                          refine lv_iload hx hb d1950 (lv_at hl 1 rfl) ?_
                                                          refine lv_if_ne (tgt := 1967) hx hb d1952 (by decide) (fun q => ?_) (fun q => ?_)
                                                          · have hf := x_neg q hf
                                                            exact s_L_law_b1967 hE C0 hX hbl hbA hk23 _ _ _ _ _ _ _ _ _ _ (by omega) (by omega) hR hS (lv_sub hl [2, 3, 4, 5, 6] rfl) hf
                                                          · have hf := x_pos q hf
                                                            have h0 : x_by cL_law 1955 [45, 3, 47, 21, 6, 133, 148, 153, 0, 5] := by unfold x_by; decide +kernel
                                                            obtain ⟨d1955, h0⟩ := de_aload_n3 h0
                                                            obtain ⟨d1956, h0⟩ := de_iconst_0 h0
                                                            obtain ⟨d1957, h0⟩ := de_laload h0
                                                            obtain ⟨d1958, h0⟩ := de_iload h0
                                                            obtain ⟨d1960, h0⟩ := de_i2l h0
                                                            obtain ⟨d1961, h0⟩ := de_lcmp h0
                                                            obtain ⟨d1962, h0⟩ := de_if_eq (5) (by decide) h0
                                                            refine lv_aload_n hx hb d1955 rfl (lv_at hl 5 rfl) ?_
                                                            refine lv_iconst (v := 0) hx hb d1956 (by decide) ?_
                                                            refine x_lald C0 hR hf d1957 (fun j158 hf => ?_)
                                                            refine lv_iload hx hb d1958 (lv_at hl 0 rfl) ?_
                                                            refine lv_i2l hx hb d1960 rfl ?_
                                                            refine W.lcmp hx hb d1961 ?_
                                                            refine lv_if_eq (tgt := 1967) hx hb d1962 (by decide) (fun q => ?_) (fun q => ?_)
                                                            · have hf := x_pos q hf
                                                              exact s_L_law_b1967 hE C0 hX hbl hbA hk23 _ _ _ _ _ _ _ _ _ _ (by omega) (by omega) hR hS (lv_sub hl [2, 3, 4, 5, 6] rfl) hf
                                                            · have hf := x_neg q hf
                                                              have h0 : x_by cL_law 1965 [3, 172] := by unfold x_by; decide +kernel
                                                              obtain ⟨d1965, h0⟩ := de_iconst_0 h0
                                                              obtain ⟨d1966, h0⟩ := de_ireturn h0
                                                              refine lv_iconst (v := 0) hx hb d1965 (by decide) ?_
                                                              cases hf
                                                        · have hf := x_neg q hf
                                                          have h0 : x_by cL_law 1948 [3, 172] := by unfold x_by; decide +kernel
                                                          obtain ⟨d1948, h0⟩ := de_iconst_0 h0
                                                          obtain ⟨d1949, h0⟩ := de_ireturn h0
                                                          refine lv_iconst (v := 0) hx hb d1948 (by decide) ?_
                                                          cases hf
                                                      · have hf := x_neg q25 hf
                                                        by_cases q26 : ((xs (x4 : Int32).toNatClampNeg) &&& 31) = 26
                                                        · have hf := x_pos q26 hf
                                                          refine lv_tableIn (tgt := 1970) hx hb d39 (by rw [q26]; decide) (by rw [q26]; decide) (by rw [q26]; first | done | rfl) (by decide) ?_
                                                          have h0 : x_by cL_law 1970 [43, 42, 21, 4, 4, 96, 46, 45, 184, 0, 202, 54, 5, 44, 42, 21, 4, 4, 96, 46, 182, 0, 204, 54, 6, 44, 182, 0, 117, 21, 5, 159, 0, 5] := by unfold x_by; decide +kernel
                                                          obtain ⟨d1970, h0⟩ := de_aload_n1 h0
                                                          obtain ⟨d1971, h0⟩ := de_aload_n0 h0
                                                          obtain ⟨d1972, h0⟩ := de_iload h0
                                                          obtain ⟨d1974, h0⟩ := de_iconst_1 h0
                                                          obtain ⟨d1975, h0⟩ := de_iadd h0
                                                          obtain ⟨d1976, h0⟩ := de_iaload h0
                                                          obtain ⟨d1977, h0⟩ := de_aload_n3 h0
                                                          obtain ⟨d1978, h0⟩ := de_invokestatic 202 (by decide) h0
                                                          obtain ⟨d1981, h0⟩ := de_istore h0
                                                          obtain ⟨d1983, h0⟩ := de_aload_n2 h0
                                                          obtain ⟨d1984, h0⟩ := de_aload_n0 h0
                                                          obtain ⟨d1985, h0⟩ := de_iload h0
                                                          obtain ⟨d1987, h0⟩ := de_iconst_1 h0
                                                          obtain ⟨d1988, h0⟩ := de_iadd h0
                                                          obtain ⟨d1989, h0⟩ := de_iaload h0
                                                          obtain ⟨d1990, h0⟩ := de_invokevirtual 204 (by decide) h0
                                                          obtain ⟨d1993, h0⟩ := de_istore h0
                                                          obtain ⟨d1995, h0⟩ := de_aload_n2 h0
                                                          obtain ⟨d1996, h0⟩ := de_invokevirtual 117 (by decide) h0
                                                          obtain ⟨d1999, h0⟩ := de_iload h0
                                                          obtain ⟨d2001, h0⟩ := de_icmp_eq (5) (by decide) h0
                                                          refine lv_aload_n hx hb d1970 rfl (lv_at hl 1 rfl) ?_
                                                          refine lv_aload_n hx hb d1971 rfl (lv_at hl 0 rfl) ?_
                                                          refine lv_iload hx hb d1972 (lv_at hl 4 rfl) ?_
                                                          refine lv_iconst (v := 1) hx hb d1974 (by decide) ?_
                                                          refine lv_iadd hx hb d1975 ?_
                                                          obtain ⟨hin, hf⟩ := x_sl_el hf
                                                          refine va_sld hx hb hX hbl hbA hS hin d1976 ?_
                                                          refine lv_aload_n hx hb d1977 rfl (lv_at hl 3 rfl) ?_
                                                          refine x_thenLI hS hf (fun z0 e0 => x_runSX C0 hR hS me_L_restore wt_L_restore ml_L_202 (As := [.ref (xa E r1), .int (xs ((x4 + 1) : Int32).toNatClampNeg), .ref (xa E r3)]) (ct_L_restore E l C0.2.2.2.2.2.2.2.1 _ r1 (xs ((x4 + 1) : Int32).toNatClampNeg) r3) rfl rfl hl.1 (Nat.le_of_ble_eq_true rfl) d1978 ⟨(Nat.le_of_ble_eq_true rfl), (Nat.le_of_ble_eq_true rfl)⟩ ⟨(by show _ ≤ 601024; omega), (by show _ ≤ 7293034; omega)⟩ e0) (fun h9 i159 H locs hR hS hf => ?_)
                                                          refine lv_istore (lv' := [(5, .int i159), (0, .ref b), (1, .ref (xa E r1)), (2, .ref (xa E r2)), (3, .ref (xa E r3)), (4, .int x4)]) hx hb d1981 hl (by decide) rfl (fun ls hl => ?_)
                                                          refine lv_aload_n hx hb d1983 rfl (lv_at hl 3 rfl) ?_
                                                          refine lv_aload_n hx hb d1984 rfl (lv_at hl 1 rfl) ?_
                                                          refine lv_iload hx hb d1985 (lv_at hl 5 rfl) ?_
                                                          refine lv_iconst (v := 1) hx hb d1987 (by decide) ?_
                                                          refine lv_iadd hx hb d1988 ?_
                                                          obtain ⟨hin, hf⟩ := x_sl_el hf
                                                          refine va_sld hx hb hX hbl hbA hS hin d1989 ?_
                                                          obtain ⟨hs9, hf⟩ := x_if hf
                                                          refine x_thenLI hS hf (fun z0 e0 => x_runV C0 hR hS me_X8_restore wi_X8_restore wl_X8_restore ml_L_204 hs9 xcl_8 (As := [.int (xs ((x4 + 1) : Int32).toNatClampNeg)]) (ct_X8_restore E l C0.2.2.2.2.2.2.2.1 _ r2 (xs ((x4 + 1) : Int32).toNatClampNeg)) rfl rfl hl.1 (Nat.le_of_ble_eq_true rfl) d1990 ⟨(Nat.le_of_ble_eq_true rfl), (Nat.le_of_ble_eq_true rfl)⟩ ⟨(by show _ ≤ 601024; omega), (by show _ ≤ 7293034; omega)⟩ e0) (fun h9 i161 H locs hR hS hf => ?_)
                                                          refine lv_istore (lv' := [(6, .int i161), (5, .int i159), (0, .ref b), (1, .ref (xa E r1)), (2, .ref (xa E r2)), (3, .ref (xa E r3)), (4, .int x4)]) hx hb d1993 hl (by decide) rfl (fun ls hl => ?_)
                                                          refine lv_aload_n hx hb d1995 rfl (lv_at hl 4 rfl) ?_
                                                          obtain ⟨hs9, hf⟩ := x_if hf
                                                          refine x_thenLI hS hf (fun z0 e0 => x_runV C0 hR hS me_X8_thrown wi_X8_thrown wl_X8_thrown ml_L_117 hs9 xcl_8 (As := []) (ct_X8_thrown E l C0.2.2.2.2.2.2.2.1 _ r2) rfl rfl hl.1 (Nat.le_of_ble_eq_true rfl) d1996 ⟨(Nat.le_of_ble_eq_true rfl), (Nat.le_of_ble_eq_true rfl)⟩ ⟨(by show _ ≤ 601024; omega), (by show _ ≤ 7293034; omega)⟩ e0) (fun h9 i163 H locs hR hS hf => ?_)
                                                          refine lv_iload hx hb d1999 (lv_at hl 1 rfl) ?_
                                                          refine lv_icmp_eq (tgt := 2006) hx hb d2001 (by decide) (fun q => ?_) (fun q => ?_)
                                                          · have hf := x_pos q hf
                                                            have h0 : x_by cL_law 2006 [21, 5, 154, 0, 15] := by unfold x_by; decide +kernel
                                                            obtain ⟨d2006, h0⟩ := de_iload h0
                                                            obtain ⟨d2008, h0⟩ := de_if_ne (15) (by decide) h0
                                                            refine lv_iload hx hb d2006 (lv_at hl 1 rfl) ?_
                                                            refine lv_if_ne (tgt := 2023) hx hb d2008 (by decide) (fun q => ?_) (fun q => ?_)
                                                            · have hf := x_neg q hf
                                                              exact s_L_law_b2023 hE C0 hX hbl hbA hk23 _ _ _ _ _ _ _ _ _ _ (by omega) (by omega) hR hS (lv_sub hl [2, 3, 4, 5, 6] rfl) hf
                                                            · have hf := x_pos q hf
                                                              have h0 : x_by cL_law 2011 [45, 3, 47, 21, 6, 133, 148, 153, 0, 5] := by unfold x_by; decide +kernel
                                                              obtain ⟨d2011, h0⟩ := de_aload_n3 h0
                                                              obtain ⟨d2012, h0⟩ := de_iconst_0 h0
                                                              obtain ⟨d2013, h0⟩ := de_laload h0
                                                              obtain ⟨d2014, h0⟩ := de_iload h0
                                                              obtain ⟨d2016, h0⟩ := de_i2l h0
                                                              obtain ⟨d2017, h0⟩ := de_lcmp h0
                                                              obtain ⟨d2018, h0⟩ := de_if_eq (5) (by decide) h0
                                                              refine lv_aload_n hx hb d2011 rfl (lv_at hl 5 rfl) ?_
                                                              refine lv_iconst (v := 0) hx hb d2012 (by decide) ?_
                                                              refine x_lald C0 hR hf d2013 (fun j165 hf => ?_)
                                                              refine lv_iload hx hb d2014 (lv_at hl 0 rfl) ?_
                                                              refine lv_i2l hx hb d2016 rfl ?_
                                                              refine W.lcmp hx hb d2017 ?_
                                                              refine lv_if_eq (tgt := 2023) hx hb d2018 (by decide) (fun q => ?_) (fun q => ?_)
                                                              · have hf := x_pos q hf
                                                                exact s_L_law_b2023 hE C0 hX hbl hbA hk23 _ _ _ _ _ _ _ _ _ _ (by omega) (by omega) hR hS (lv_sub hl [2, 3, 4, 5, 6] rfl) hf
                                                              · have hf := x_neg q hf
                                                                have h0 : x_by cL_law 2021 [3, 172] := by unfold x_by; decide +kernel
                                                                obtain ⟨d2021, h0⟩ := de_iconst_0 h0
                                                                obtain ⟨d2022, h0⟩ := de_ireturn h0
                                                                refine lv_iconst (v := 0) hx hb d2021 (by decide) ?_
                                                                cases hf
                                                          · have hf := x_neg q hf
                                                            have h0 : x_by cL_law 2004 [3, 172] := by unfold x_by; decide +kernel
                                                            obtain ⟨d2004, h0⟩ := de_iconst_0 h0
                                                            obtain ⟨d2005, h0⟩ := de_ireturn h0
                                                            refine lv_iconst (v := 0) hx hb d2004 (by decide) ?_
                                                            cases hf
                                                        · have hf := x_neg q26 hf
                                                          by_cases q27 : ((xs (x4 : Int32).toNatClampNeg) &&& 31) = 27
                                                          · have hf := x_pos q27 hf
                                                            refine lv_tableIn (tgt := 2026) hx hb d39 (by rw [q27]; decide) (by rw [q27]; decide) (by rw [q27]; first | done | rfl) (by decide) ?_
                                                            have h0 : x_by cL_law 2026 [43, 45, 184, 0, 205, 54, 5, 44, 182, 0, 208, 54, 6, 44, 182, 0, 117, 21, 5, 159, 0, 5] := by unfold x_by; decide +kernel
                                                            obtain ⟨d2026, h0⟩ := de_aload_n1 h0
                                                            obtain ⟨d2027, h0⟩ := de_aload_n3 h0
                                                            obtain ⟨d2028, h0⟩ := de_invokestatic 205 (by decide) h0
                                                            obtain ⟨d2031, h0⟩ := de_istore h0
                                                            obtain ⟨d2033, h0⟩ := de_aload_n2 h0
                                                            obtain ⟨d2034, h0⟩ := de_invokevirtual 208 (by decide) h0
                                                            obtain ⟨d2037, h0⟩ := de_istore h0
                                                            obtain ⟨d2039, h0⟩ := de_aload_n2 h0
                                                            obtain ⟨d2040, h0⟩ := de_invokevirtual 117 (by decide) h0
                                                            obtain ⟨d2043, h0⟩ := de_iload h0
                                                            obtain ⟨d2045, h0⟩ := de_icmp_eq (5) (by decide) h0
                                                            refine lv_aload_n hx hb d2026 rfl (lv_at hl 1 rfl) ?_
                                                            refine lv_aload_n hx hb d2027 rfl (lv_at hl 3 rfl) ?_
                                                            refine x_thenLI hS hf (fun z0 e0 => x_runSX C0 hR hS me_L_undo wt_L_undo ml_L_205 (As := [.ref (xa E r1), .ref (xa E r3)]) (ct_L_undo E l C0.2.2.2.2.2.2.2.1 _ r1 r3) rfl rfl hl.1 (Nat.le_of_ble_eq_true rfl) d2028 ⟨(Nat.le_of_ble_eq_true rfl), (Nat.le_of_ble_eq_true rfl)⟩ ⟨(by show _ ≤ 601024; omega), (by show _ ≤ 7293034; omega)⟩ e0) (fun h9 i166 H locs hR hS hf => ?_)
                                                            refine lv_istore (lv' := [(5, .int i166), (0, .ref b), (1, .ref (xa E r1)), (2, .ref (xa E r2)), (3, .ref (xa E r3)), (4, .int x4)]) hx hb d2031 hl (by decide) rfl (fun ls hl => ?_)
                                                            refine lv_aload_n hx hb d2033 rfl (lv_at hl 3 rfl) ?_
                                                            obtain ⟨hs9, hf⟩ := x_if hf
                                                            refine x_thenLI hS hf (fun z0 e0 => x_runV C0 hR hS me_X8_undo wi_X8_undo wl_X8_undo ml_L_208 hs9 xcl_8 (As := []) (ct_X8_undo E l C0.2.2.2.2.2.2.2.1 _ r2) rfl rfl hl.1 (Nat.le_of_ble_eq_true rfl) d2034 ⟨(Nat.le_of_ble_eq_true rfl), (Nat.le_of_ble_eq_true rfl)⟩ ⟨(by show _ ≤ 601024; omega), (by show _ ≤ 7293034; omega)⟩ e0) (fun h9 i168 H locs hR hS hf => ?_)
                                                            refine lv_istore (lv' := [(6, .int i168), (5, .int i166), (0, .ref b), (1, .ref (xa E r1)), (2, .ref (xa E r2)), (3, .ref (xa E r3)), (4, .int x4)]) hx hb d2037 hl (by decide) rfl (fun ls hl => ?_)
                                                            refine lv_aload_n hx hb d2039 rfl (lv_at hl 4 rfl) ?_
                                                            obtain ⟨hs9, hf⟩ := x_if hf
                                                            refine x_thenLI hS hf (fun z0 e0 => x_runV C0 hR hS me_X8_thrown wi_X8_thrown wl_X8_thrown ml_L_117 hs9 xcl_8 (As := []) (ct_X8_thrown E l C0.2.2.2.2.2.2.2.1 _ r2) rfl rfl hl.1 (Nat.le_of_ble_eq_true rfl) d2040 ⟨(Nat.le_of_ble_eq_true rfl), (Nat.le_of_ble_eq_true rfl)⟩ ⟨(by show _ ≤ 601024; omega), (by show _ ≤ 7293034; omega)⟩ e0) (fun h9 i170 H locs hR hS hf => ?_)
                                                            refine lv_iload hx hb d2043 (lv_at hl 1 rfl) ?_
                                                            refine lv_icmp_eq (tgt := 2050) hx hb d2045 (by decide) (fun q => ?_) (fun q => ?_)
                                                            · have hf := x_pos q hf
                                                              have h0 : x_by cL_law 2050 [21, 5, 154, 0, 15] := by unfold x_by; decide +kernel
                                                              obtain ⟨d2050, h0⟩ := de_iload h0
                                                              obtain ⟨d2052, h0⟩ := de_if_ne (15) (by decide) h0
                                                              refine lv_iload hx hb d2050 (lv_at hl 1 rfl) ?_
                                                              refine lv_if_ne (tgt := 2067) hx hb d2052 (by decide) (fun q => ?_) (fun q => ?_)
                                                              · have hf := x_neg q hf
                                                                exact s_L_law_b2067 hE C0 hX hbl hbA hk23 _ _ _ _ _ _ _ _ _ _ (by omega) (by omega) hR hS (lv_sub hl [2, 3, 4, 5, 6] rfl) hf
                                                              · have hf := x_pos q hf
                                                                have h0 : x_by cL_law 2055 [45, 3, 47, 21, 6, 133, 148, 153, 0, 5] := by unfold x_by; decide +kernel
                                                                obtain ⟨d2055, h0⟩ := de_aload_n3 h0
                                                                obtain ⟨d2056, h0⟩ := de_iconst_0 h0
                                                                obtain ⟨d2057, h0⟩ := de_laload h0
                                                                obtain ⟨d2058, h0⟩ := de_iload h0
                                                                obtain ⟨d2060, h0⟩ := de_i2l h0
                                                                obtain ⟨d2061, h0⟩ := de_lcmp h0
                                                                obtain ⟨d2062, h0⟩ := de_if_eq (5) (by decide) h0
                                                                refine lv_aload_n hx hb d2055 rfl (lv_at hl 5 rfl) ?_
                                                                refine lv_iconst (v := 0) hx hb d2056 (by decide) ?_
                                                                refine x_lald C0 hR hf d2057 (fun j172 hf => ?_)
                                                                refine lv_iload hx hb d2058 (lv_at hl 0 rfl) ?_
                                                                refine lv_i2l hx hb d2060 rfl ?_
                                                                refine W.lcmp hx hb d2061 ?_
                                                                refine lv_if_eq (tgt := 2067) hx hb d2062 (by decide) (fun q => ?_) (fun q => ?_)
                                                                · have hf := x_pos q hf
                                                                  exact s_L_law_b2067 hE C0 hX hbl hbA hk23 _ _ _ _ _ _ _ _ _ _ (by omega) (by omega) hR hS (lv_sub hl [2, 3, 4, 5, 6] rfl) hf
                                                                · have hf := x_neg q hf
                                                                  have h0 : x_by cL_law 2065 [3, 172] := by unfold x_by; decide +kernel
                                                                  obtain ⟨d2065, h0⟩ := de_iconst_0 h0
                                                                  obtain ⟨d2066, h0⟩ := de_ireturn h0
                                                                  refine lv_iconst (v := 0) hx hb d2065 (by decide) ?_
                                                                  cases hf
                                                            · have hf := x_neg q hf
                                                              have h0 : x_by cL_law 2048 [3, 172] := by unfold x_by; decide +kernel
                                                              obtain ⟨d2048, h0⟩ := de_iconst_0 h0
                                                              obtain ⟨d2049, h0⟩ := de_ireturn h0
                                                              refine lv_iconst (v := 0) hx hb d2048 (by decide) ?_
                                                              cases hf
                                                          · have hf := x_neg q27 hf
                                                            have g0 : (((xs (x4 : Int32).toNatClampNeg) &&& 31)).toInt ≠ 0 := fun e9 => q0 (Int32.toInt_inj.mp (e9.trans (by decide)))
                                                            have g1 : (((xs (x4 : Int32).toNatClampNeg) &&& 31)).toInt ≠ 1 := fun e9 => q1 (Int32.toInt_inj.mp (e9.trans (by decide)))
                                                            have g2 : (((xs (x4 : Int32).toNatClampNeg) &&& 31)).toInt ≠ 2 := fun e9 => q2 (Int32.toInt_inj.mp (e9.trans (by decide)))
                                                            have g3 : (((xs (x4 : Int32).toNatClampNeg) &&& 31)).toInt ≠ 3 := fun e9 => q3 (Int32.toInt_inj.mp (e9.trans (by decide)))
                                                            have g4 : (((xs (x4 : Int32).toNatClampNeg) &&& 31)).toInt ≠ 4 := fun e9 => q4 (Int32.toInt_inj.mp (e9.trans (by decide)))
                                                            have g5 : (((xs (x4 : Int32).toNatClampNeg) &&& 31)).toInt ≠ 5 := fun e9 => q5 (Int32.toInt_inj.mp (e9.trans (by decide)))
                                                            have g6 : (((xs (x4 : Int32).toNatClampNeg) &&& 31)).toInt ≠ 6 := fun e9 => q6 (Int32.toInt_inj.mp (e9.trans (by decide)))
                                                            have g7 : (((xs (x4 : Int32).toNatClampNeg) &&& 31)).toInt ≠ 7 := fun e9 => q7 (Int32.toInt_inj.mp (e9.trans (by decide)))
                                                            have g8 : (((xs (x4 : Int32).toNatClampNeg) &&& 31)).toInt ≠ 8 := fun e9 => q8 (Int32.toInt_inj.mp (e9.trans (by decide)))
                                                            have g9 : (((xs (x4 : Int32).toNatClampNeg) &&& 31)).toInt ≠ 9 := fun e9 => q9 (Int32.toInt_inj.mp (e9.trans (by decide)))
                                                            have g10 : (((xs (x4 : Int32).toNatClampNeg) &&& 31)).toInt ≠ 10 := fun e9 => q10 (Int32.toInt_inj.mp (e9.trans (by decide)))
                                                            have g11 : (((xs (x4 : Int32).toNatClampNeg) &&& 31)).toInt ≠ 11 := fun e9 => q11 (Int32.toInt_inj.mp (e9.trans (by decide)))
                                                            have g12 : (((xs (x4 : Int32).toNatClampNeg) &&& 31)).toInt ≠ 12 := fun e9 => q12 (Int32.toInt_inj.mp (e9.trans (by decide)))
                                                            have g13 : (((xs (x4 : Int32).toNatClampNeg) &&& 31)).toInt ≠ 13 := fun e9 => q13 (Int32.toInt_inj.mp (e9.trans (by decide)))
                                                            have g14 : (((xs (x4 : Int32).toNatClampNeg) &&& 31)).toInt ≠ 14 := fun e9 => q14 (Int32.toInt_inj.mp (e9.trans (by decide)))
                                                            have g15 : (((xs (x4 : Int32).toNatClampNeg) &&& 31)).toInt ≠ 15 := fun e9 => q15 (Int32.toInt_inj.mp (e9.trans (by decide)))
                                                            have g16 : (((xs (x4 : Int32).toNatClampNeg) &&& 31)).toInt ≠ 16 := fun e9 => q16 (Int32.toInt_inj.mp (e9.trans (by decide)))
                                                            have g17 : (((xs (x4 : Int32).toNatClampNeg) &&& 31)).toInt ≠ 17 := fun e9 => q17 (Int32.toInt_inj.mp (e9.trans (by decide)))
                                                            have g18 : (((xs (x4 : Int32).toNatClampNeg) &&& 31)).toInt ≠ 18 := fun e9 => q18 (Int32.toInt_inj.mp (e9.trans (by decide)))
                                                            have g19 : (((xs (x4 : Int32).toNatClampNeg) &&& 31)).toInt ≠ 19 := fun e9 => q19 (Int32.toInt_inj.mp (e9.trans (by decide)))
                                                            have g20 : (((xs (x4 : Int32).toNatClampNeg) &&& 31)).toInt ≠ 20 := fun e9 => q20 (Int32.toInt_inj.mp (e9.trans (by decide)))
                                                            have g21 : (((xs (x4 : Int32).toNatClampNeg) &&& 31)).toInt ≠ 21 := fun e9 => q21 (Int32.toInt_inj.mp (e9.trans (by decide)))
                                                            have g22 : (((xs (x4 : Int32).toNatClampNeg) &&& 31)).toInt ≠ 22 := fun e9 => q22 (Int32.toInt_inj.mp (e9.trans (by decide)))
                                                            have g23 : (((xs (x4 : Int32).toNatClampNeg) &&& 31)).toInt ≠ 23 := fun e9 => q23 (Int32.toInt_inj.mp (e9.trans (by decide)))
                                                            have g24 : (((xs (x4 : Int32).toNatClampNeg) &&& 31)).toInt ≠ 24 := fun e9 => q24 (Int32.toInt_inj.mp (e9.trans (by decide)))
                                                            have g25 : (((xs (x4 : Int32).toNatClampNeg) &&& 31)).toInt ≠ 25 := fun e9 => q25 (Int32.toInt_inj.mp (e9.trans (by decide)))
                                                            have g26 : (((xs (x4 : Int32).toNatClampNeg) &&& 31)).toInt ≠ 26 := fun e9 => q26 (Int32.toInt_inj.mp (e9.trans (by decide)))
                                                            have g27 : (((xs (x4 : Int32).toNatClampNeg) &&& 31)).toInt ≠ 27 := fun e9 => q27 (Int32.toInt_inj.mp (e9.trans (by decide)))
                                                            refine lv_tableOut (tgt := 2070) hx hb d39 (by omega) (by decide) ?_
                                                            exact s_L_law_b2070 hE C0 hX hbl hbA hk23 _ _ _ _ _ _ _ _ _ _ (by omega) (by omega) hR hS (lv_sub hl [0, 1, 2, 3, 4] rfl) hf
theorem s_L_law_L23 {p : Program} {l : Launch} {e : Env} {s : State} {m : MethodId} {below : List Frame} {meth : Method} {c : Code} {E : XE} {z : XR} {nm : String} {b L : Nat} {xs : Nat → Int32} (hE : E.1 = s.heap.size) (C0 : x_C E p l s m meth c #[Value.ref b] cL_law 7 "GridEngineLaw" nm ret) (hX : va_X b L xs s s.heap) (hbl : b < s.heap.size) (hbA : ¬ x_A E b) : ∀ n : Nat, ∀ (h : HP) (r1 : Nat) (r2 : Nat) (r3 : Nat) (x4 : Int32) (H : Heap) (locs : List Loc) (ls : Array Slot) (kc ks : Nat), kc + n * 16 ≤ 600000 → ks + n * 96 ≤ 7290000 → x_Rep E h H → va_S (x_A E) s.heap H locs → lv_has ls 7 [(0, .ref b), (1, .ref (xa E r1)), (2, .ref (xa E r2)), (3, .ref (xa E r3)), (4, .int x4)] → f_L_law_L23 L xs n h r1 r2 r3 x4 = some z → W p l e room_1 s m #[Value.ref b] below meth c H locs kc ks (lw_Z below #[Value.ref b] s) (F0 m 23 ls []) := by
  intro n
  induction n with
  | zero => intro h r1 r2 r3 x4 H locs ls kc ks hkc hks hR hS hl hf; cases (show (none : Option XR) = some z from hf)
  | succ n ih => intro h r1 r2 r3 x4 H locs ls kc ks hkc hks hR hS hl hf; exact s_L_law_b23 hE C0 hX hbl hbA ih h r1 r2 r3 x4 H locs ls kc ks hkc hks hR hS hl (show f_L_law_b23 L xs (f_L_law_L23 L xs n) h r1 r2 r3 x4 = some z from hf)
set_option maxRecDepth 100000 in
set_option maxHeartbeats 8000000 in
theorem s_L_law {p : Program} {l : Launch} {e : Env} {s : State} {m : MethodId} {below : List Frame} {meth : Method} {c : Code} {E : XE} {z : XR} {nm : String} {b L : Nat} {xs : Nat → Int32} (hE : E.1 = s.heap.size) (C0 : x_C E p l s m meth c #[Value.ref b] cL_law 7 "GridEngineLaw" nm ret) (hX : va_X b L xs s s.heap) (hbl : b < s.heap.size) (hbA : ¬ x_A E b) (h : HP) (ls : Array Slot) (hR : x_Rep E h s.heap) (hl : lv_has ls 7 [(0, .ref b)]) (hf : f_L_law L xs h = some z) : W p l e room_1 s m #[Value.ref b] below meth c s.heap [] 0 0 (lw_Z below #[Value.ref b] s) (F0 m 0 ls []) := by
  have hS : va_S (x_A E) s.heap s.heap [] := va_S.rf
  obtain ⟨hx, hb, -⟩ := id C0
  unfold f_L_law at hf
  have h0 : x_by cL_law 0 [187, 0, 8, 89, 183, 0, 107, 76, 187, 0, 108, 89, 183, 0, 110, 77, 4, 188, 11, 78, 3, 54, 4] := by unfold x_by; decide +kernel
  obtain ⟨d0, h0⟩ := de_new 8 (by decide) h0
  obtain ⟨d3, h0⟩ := de_dup h0
  obtain ⟨d4, h0⟩ := de_invokespecial 107 (by decide) h0
  obtain ⟨d7, h0⟩ := de_astore_n1 h0
  obtain ⟨d8, h0⟩ := de_new 108 (by decide) h0
  obtain ⟨d11, h0⟩ := de_dup h0
  obtain ⟨d12, h0⟩ := de_invokespecial 110 (by decide) h0
  obtain ⟨d15, h0⟩ := de_astore_n2 h0
  obtain ⟨d16, h0⟩ := de_iconst_1 h0
  obtain ⟨d17, h0⟩ := de_newarray_long h0
  obtain ⟨d19, h0⟩ := de_astore_n3 h0
  obtain ⟨d20, h0⟩ := de_iconst_0 h0
  obtain ⟨d21, h0⟩ := de_istore h0
  refine x_newo C0 hR hS hf xcl_7 xok_7 cl_L_8 cn_7 cz_7 (Nat.le_of_ble_eq_true rfl) (Nat.le_of_ble_eq_true rfl) d0 (fun H a1 hR hS hf => ?_)
  refine lv_dup hx hb d3 rfl ?_
  refine x_thenLV hS hf (fun z0 e0 => x_runI C0 hR hS me_X7_init rfl wi_X7_init ml_L_107 (As := []) (ct_X7_init E l C0.2.2.2.2.2.2.2.1 _ a1) rfl rfl hl.1 (Nat.le_of_ble_eq_true rfl) d4 ⟨(Nat.le_of_ble_eq_true rfl), (Nat.le_of_ble_eq_true rfl)⟩ ⟨(by show _ ≤ 601024; omega), (by show _ ≤ 7293034; omega)⟩ e0) (fun h9 H locs hR hS hf => ?_)
  refine lv_astore_n (lv' := [(1, .ref (xa E a1)), (0, .ref b)]) hx hb d7 rfl hl (by decide) rfl (fun ls hl => ?_)
  refine x_newo C0 hR hS hf xcl_8 xok_8 cl_L_108 cn_8 cz_8 (Nat.le_of_ble_eq_true rfl) (Nat.le_of_ble_eq_true rfl) d8 (fun H a4 hR hS hf => ?_)
  refine lv_dup hx hb d11 rfl ?_
  refine x_thenLV hS hf (fun z0 e0 => x_runI C0 hR hS me_X8_init rfl wi_X8_init ml_L_110 (As := []) (ct_X8_init E l C0.2.2.2.2.2.2.2.1 _ a4) rfl rfl hl.1 (Nat.le_of_ble_eq_true rfl) d12 ⟨(Nat.le_of_ble_eq_true rfl), (Nat.le_of_ble_eq_true rfl)⟩ ⟨(by show _ ≤ 601024; omega), (by show _ ≤ 7293034; omega)⟩ e0) (fun h9 H locs hR hS hf => ?_)
  refine lv_astore_n (lv' := [(2, .ref (xa E a4)), (1, .ref (xa E a1)), (0, .ref b)]) hx hb d15 rfl hl (by decide) rfl (fun ls hl => ?_)
  refine lv_iconst (v := 1) hx hb d16 (by decide) ?_
  refine x_newa (t := 3) C0 hR hS hf rfl (by decide) ac_3 (N := 1) (by decide) (Nat.le_of_ble_eq_true rfl) (Nat.le_of_ble_eq_true rfl) d17 (fun H a7 hR hS hf => ?_)
  refine lv_astore_n (lv' := [(3, .ref (xa E a7)), (2, .ref (xa E a4)), (1, .ref (xa E a1)), (0, .ref b)]) hx hb d19 rfl hl (by decide) rfl (fun ls hl => ?_)
  refine lv_iconst (v := 0) hx hb d20 (by decide) ?_
  refine lv_istore (lv' := [(4, .int 0), (3, .ref (xa E a7)), (2, .ref (xa E a4)), (1, .ref (xa E a1)), (0, .ref b)]) hx hb d21 hl (by decide) rfl (fun ls hl => ?_)
  exact s_L_law_L23 hE C0 hX hbl hbA 514 _ _ _ _ _ _ _ _ _ _ (by omega) (by omega) hR hS (lv_sub hl [4, 3, 2, 1, 0] rfl) hf
