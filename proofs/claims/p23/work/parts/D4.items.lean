/-! the bill's tokens, piece by piece (written by mkD4.py) -/
def nmB (h : H4) : Int32 := if h.1 = 5 then 97 else 98
def nmV (h : H4) : Int64 := if h.1 = 5 then 1 else 2
def chkB (b : List Int32) (kv : Int32 × Int64) (nx : Int32) : Bool := decide (b ≠ []) && !isBlB (b.headD 0) && ((isLeB (b.headD 0) && b.all isLDB && decide (b.length ≤ 10) && !isLDB nx && decide (kv = kvW b)) || (!isLeB (b.headD 0) && isDiB (b.headD 0) && b.all isDiB && decide (b.length ≤ 6) && !isDiB nx && decide (kv = (259, nuL b 0))) || (decide (b = [kv.1]) && decide (kv.1 ∈ syms) && !isLeB kv.1 && !isDiB kv.1 && decide ((kv.1 ≠ 60 ∧ kv.1 ≠ 62) ∨ nx ≠ 61) && decide (kv.2 = 0)))
theorem okT_c {b : List Int32} {kv : Int32 × Int64} {nx : Int32} (h : chkB b kv nx = true) : okT b kv nx := by
  unfold chkB at h
  simp only [Bool.and_eq_true, Bool.or_eq_true, Bool.not_eq_true', decide_eq_true_eq] at h
  obtain ⟨⟨h1, h2⟩, (h3 | h3) | h3⟩ := h
  · exact ⟨h1, h2, Or.inl ⟨h3.1.1.1.1, h3.1.1.1.2, h3.1.1.2, h3.1.2, h3.2⟩⟩
  · exact ⟨h1, h2, Or.inr (Or.inl ⟨h3.1.1.1.1.1, h3.1.1.1.1.2, h3.1.1.1.2, h3.1.1.2, h3.1.2, h3.2⟩)⟩
  · exact ⟨h1, h2, Or.inr (Or.inr ⟨h3.1.1.1.1.1, h3.1.1.1.1.2, h3.1.1.1.2, h3.1.1.2, h3.1.2, h3.2⟩)⟩
theorem okT_n0 : ∀ n, n < 100 → chkB (dgt n) (259, Int64.ofNat n) 32 = true ∧ chkB (dgt n) (259, Int64.ofNat n) 59 = true := by decide +kernel
theorem okT_n {n : Nat} {nx : Int32} (hn : n < 100) (h : nx = 32 ∨ nx = 59) : okT (dgt n) (259, Int64.ofNat n) nx := by
  rcases h with rfl | rfl
  · exact okT_c (okT_n0 n hn).1
  · exact okT_c (okT_n0 n hn).2
theorem okT_u (h : H4) {nx : Int32} (hx : nx = 32) : okT [nmB h] (258, nmV h) nx := by
  subst hx
  unfold nmB nmV
  by_cases c : h.1 = 5
  · rw [if_pos c, if_pos c]
    exact okT_c (by decide +kernel)
  · rw [if_neg c, if_neg c]
    exact okT_c (by decide +kernel)
def rail0I (h : H3) (r : List It) : List It := (false, [114, 97, 105, 108], 300, 0) :: (true, [97], 258, 1) :: (true, [104, 105, 103, 104], 301, 0) :: (true, dgt h.1, 259, Int64.ofNat h.1) :: (true, [112, 117, 99, 107], 302, 0) :: (true, dgt h.2.1, 259, Int64.ofNat h.2.1) :: (true, [115, 112, 114, 105, 110, 103], 303, 0) :: (true, dgt h.2.2, 259, Int64.ofNat h.2.2) :: r
theorem it_0 {nx : Int32} (h : nx = 32) : okT [115, 112, 114, 105, 110, 103] (303, 0) nx := by
  subst h
  exact okT_c (by decide +kernel)
theorem it_1 {nx : Int32} (h : nx = 32) : okT [112, 117, 99, 107] (302, 0) nx := by
  subst h
  exact okT_c (by decide +kernel)
theorem it_2 {nx : Int32} (h : nx = 32) : okT [104, 105, 103, 104] (301, 0) nx := by
  subst h
  exact okT_c (by decide +kernel)
theorem it_3 {nx : Int32} (h : nx = 32) : okT [97] (258, 1) nx := by
  subst h
  exact okT_c (by decide +kernel)
theorem it_4 {nx : Int32} (h : nx = 32) : okT [114, 97, 105, 108] (300, 0) nx := by
  subst h
  exact okT_c (by decide +kernel)
theorem rail0I_ok {h : H3} {r : List It} (hh : okR h) (hn : nxI r = 59) (hr : okI r) : okI (rail0I h r) := ⟨it_4 rfl, ⟨it_3 rfl, ⟨it_2 rfl, ⟨okT_n (by have := hh.2.1; omega) (Or.inl rfl), ⟨it_1 rfl, ⟨okT_n (by have := hh.2.2.2.1; omega) (Or.inl rfl), ⟨it_0 rfl, ⟨okT_n (by have := hh.2.2.2.2; omega) (Or.inr hn), hr⟩⟩⟩⟩⟩⟩⟩⟩
theorem rail0I_ren {h : H3} {r : List It} : railT 0 h ++ renI r = renI (rail0I h r) := by
  unfold railT
  simp only [List.append_assoc, List.cons_append]
  rfl
def fist0I (h : H3) (r : List It) : List It := (false, [59], 59, 0) :: (true, [102, 105, 115, 116], 309, 0) :: (true, [102], 258, 6) :: (true, [97, 114, 109], 310, 0) :: (true, dgt h.1, 259, Int64.ofNat h.1) :: (true, [97, 105, 109], 311, 0) :: (true, dgt h.2.1, 259, Int64.ofNat h.2.1) :: (true, [101, 108, 98, 111, 119, 115], 312, 0) :: (true, dgt h.2.2, 259, Int64.ofNat h.2.2) :: r
theorem it_5 {nx : Int32} (h : nx = 32) : okT [101, 108, 98, 111, 119, 115] (312, 0) nx := by
  subst h
  exact okT_c (by decide +kernel)
theorem it_6 {nx : Int32} (h : nx = 32) : okT [97, 105, 109] (311, 0) nx := by
  subst h
  exact okT_c (by decide +kernel)
theorem it_7 {nx : Int32} (h : nx = 32) : okT [97, 114, 109] (310, 0) nx := by
  subst h
  exact okT_c (by decide +kernel)
theorem it_8 {nx : Int32} (h : nx = 32) : okT [102] (258, 6) nx := by
  subst h
  exact okT_c (by decide +kernel)
theorem it_9 {nx : Int32} (h : nx = 32) : okT [102, 105, 115, 116] (309, 0) nx := by
  subst h
  exact okT_c (by decide +kernel)
theorem it_10 {nx : Int32} (h : nx = 32) : okT [59] (59, 0) nx := by
  subst h
  exact okT_c (by decide +kernel)
theorem fist0I_ok {h : H3} {r : List It} (hh : okF h) (hn : nxI r = 59) (hr : okI r) : okI (fist0I h r) := ⟨it_10 rfl, ⟨it_9 rfl, ⟨it_8 rfl, ⟨it_7 rfl, ⟨okT_n (by have := hh.2.1; omega) (Or.inl rfl), ⟨it_6 rfl, ⟨okT_n (by have := hh.2.2.1; omega) (Or.inl rfl), ⟨it_5 rfl, ⟨okT_n (by have := hh.2.2.2; omega) (Or.inr hn), hr⟩⟩⟩⟩⟩⟩⟩⟩⟩
theorem fist0I_ren {h : H3} {r : List It} : fistT 0 h ++ renI r = renI (fist0I h r) := by
  unfold fistT
  simp only [List.append_assoc, List.cons_append]
  rfl
def rail1I (h : H3) (r : List It) : List It := (false, [59], 59, 0) :: (true, [114, 97, 105, 108], 300, 0) :: (true, [98], 258, 2) :: (true, [104, 105, 103, 104], 301, 0) :: (true, dgt h.1, 259, Int64.ofNat h.1) :: (true, [112, 117, 99, 107], 302, 0) :: (true, dgt h.2.1, 259, Int64.ofNat h.2.1) :: (true, [115, 112, 114, 105, 110, 103], 303, 0) :: (true, dgt h.2.2, 259, Int64.ofNat h.2.2) :: r
theorem it_11 {nx : Int32} (h : nx = 32) : okT [98] (258, 2) nx := by
  subst h
  exact okT_c (by decide +kernel)
theorem rail1I_ok {h : H3} {r : List It} (hh : okR h) (hn : nxI r = 59) (hr : okI r) : okI (rail1I h r) := ⟨it_10 rfl, ⟨it_4 rfl, ⟨it_11 rfl, ⟨it_2 rfl, ⟨okT_n (by have := hh.2.1; omega) (Or.inl rfl), ⟨it_1 rfl, ⟨okT_n (by have := hh.2.2.2.1; omega) (Or.inl rfl), ⟨it_0 rfl, ⟨okT_n (by have := hh.2.2.2.2; omega) (Or.inr hn), hr⟩⟩⟩⟩⟩⟩⟩⟩⟩
theorem rail1I_ren {h : H3} {r : List It} : railT 1 h ++ renI r = renI (rail1I h r) := by
  unfold railT
  simp only [List.append_assoc, List.cons_append]
  rfl
def fist1I (h : H3) (r : List It) : List It := (false, [59], 59, 0) :: (true, [102, 105, 115, 116], 309, 0) :: (true, [103], 258, 7) :: (true, [97, 114, 109], 310, 0) :: (true, dgt h.1, 259, Int64.ofNat h.1) :: (true, [97, 105, 109], 311, 0) :: (true, dgt h.2.1, 259, Int64.ofNat h.2.1) :: (true, [101, 108, 98, 111, 119, 115], 312, 0) :: (true, dgt h.2.2, 259, Int64.ofNat h.2.2) :: r
theorem it_12 {nx : Int32} (h : nx = 32) : okT [103] (258, 7) nx := by
  subst h
  exact okT_c (by decide +kernel)
theorem fist1I_ok {h : H3} {r : List It} (hh : okF h) (hn : nxI r = 59) (hr : okI r) : okI (fist1I h r) := ⟨it_10 rfl, ⟨it_9 rfl, ⟨it_12 rfl, ⟨it_7 rfl, ⟨okT_n (by have := hh.2.1; omega) (Or.inl rfl), ⟨it_6 rfl, ⟨okT_n (by have := hh.2.2.1; omega) (Or.inl rfl), ⟨it_5 rfl, ⟨okT_n (by have := hh.2.2.2; omega) (Or.inr hn), hr⟩⟩⟩⟩⟩⟩⟩⟩⟩
theorem fist1I_ren {h : H3} {r : List It} : fistT 1 h ++ renI r = renI (fist1I h r) := by
  unfold fistT
  simp only [List.append_assoc, List.cons_append]
  rfl
def rustI (h : H4) (r : List It) : List It := (false, [59], 59, 0) :: (true, [114, 117, 115, 116], 304, 0) :: (true, [111, 110], 305, 0) :: (true, [nmB h], 258, nmV h) :: (true, [102, 114, 111, 109], 306, 0) :: (true, dgt h.2.1, 259, Int64.ofNat h.2.1) :: (true, [116, 111], 307, 0) :: (true, dgt h.2.2.1, 259, Int64.ofNat h.2.2.1) :: (true, [98, 121], 308, 0) :: (true, dgt h.2.2.2, 259, Int64.ofNat h.2.2.2) :: r
theorem it_13 {nx : Int32} (h : nx = 32) : okT [98, 121] (308, 0) nx := by
  subst h
  exact okT_c (by decide +kernel)
theorem it_14 {nx : Int32} (h : nx = 32) : okT [116, 111] (307, 0) nx := by
  subst h
  exact okT_c (by decide +kernel)
theorem it_15 {nx : Int32} (h : nx = 32) : okT [102, 114, 111, 109] (306, 0) nx := by
  subst h
  exact okT_c (by decide +kernel)
theorem it_16 {nx : Int32} (h : nx = 32) : okT [111, 110] (305, 0) nx := by
  subst h
  exact okT_c (by decide +kernel)
theorem it_17 {nx : Int32} (h : nx = 32) : okT [114, 117, 115, 116] (304, 0) nx := by
  subst h
  exact okT_c (by decide +kernel)
theorem rustI_ok {h : H4} {r : List It} (hh : okU h) (hn : nxI r = 59) (hr : okI r) : okI (rustI h r) := ⟨it_10 rfl, ⟨it_17 rfl, ⟨it_16 rfl, ⟨okT_u h rfl, ⟨it_15 rfl, ⟨okT_n (by have := hh.2.1; have := hh.2.2.1; omega) (Or.inl rfl), ⟨it_14 rfl, ⟨okT_n (by have := hh.2.2.1; omega) (Or.inl rfl), ⟨it_13 rfl, ⟨okT_n (by have := hh.2.2.2; omega) (Or.inr hn), hr⟩⟩⟩⟩⟩⟩⟩⟩⟩⟩
theorem rustI_ren {h : H4} {r : List It} (hh : okU h) : rustT h ++ renI r = renI (rustI h r) := by
  have e : strN h.1 = [59, 32, 114, 117, 115, 116, 32, 111, 110, 32, nmB h, 32, 102, 114, 111, 109] := by
    rcases hh.1 with c | c
    · unfold nmB
      rw [c]
      rfl
    · unfold nmB
      rw [c]
      rfl
  unfold rustT
  rw [e]
  simp only [List.append_assoc, List.cons_append]
  rfl
def endI : List It := [(false, [59], 59, 0), (false, [112, 114, 105, 122, 101], 313, 0), (true, [112], 258, 16), (true, [119, 111, 114, 116, 104], 314, 0), (true, [53], 259, 5), (true, [111, 102], 315, 0), (true, [55], 259, 7), (true, [119, 104, 101, 110], 316, 0), (true, [114, 105, 110, 103, 115], 326, 0), (false, [59], 59, 0), (true, [112, 114, 105, 122, 101], 313, 0), (true, [113], 258, 17), (true, [119, 111, 114, 116, 104], 314, 0), (true, [50], 259, 2), (true, [111, 102], 315, 0), (true, [50, 48], 259, 20), (true, [119, 104, 101, 110], 316, 0), (true, [104, 101, 105, 103, 104, 116], 319, 0), (true, [62], 62, 0), (true, [52], 259, 4), (true, [97, 110, 100], 328, 0), (true, [115, 111, 114, 101], 323, 0), (true, [102], 258, 6), (true, [60], 60, 0), (true, [53, 48], 259, 50), (false, [59], 59, 0), (true, [116, 117, 114, 110], 317, 0), (true, [102], 258, 6), (true, [97, 116], 318, 0), (true, [97], 258, 1), (false, [59], 59, 0), (true, [116, 117, 114, 110], 317, 0), (true, [103], 258, 7), (true, [97, 116], 318, 0), (true, [97], 258, 1), (true, [119, 104, 101, 110], 316, 0), (true, [98, 101, 108, 108, 115], 320, 0), (true, [61], 61, 0), (true, [48], 259, 0), (false, [59], 59, 0), (true, [116, 117, 114, 110], 317, 0), (true, [103], 258, 7), (true, [97, 116], 318, 0), (true, [98], 258, 2), (false, [59], 59, 0)]
theorem it_18 {nx : Int32} (h : nx = 256) : okT [59] (59, 0) nx := by
  subst h
  exact okT_c (by decide +kernel)
theorem it_19 {nx : Int32} (h : nx = 59) : okT [98] (258, 2) nx := by
  subst h
  exact okT_c (by decide +kernel)
theorem it_20 {nx : Int32} (h : nx = 32) : okT [97, 116] (318, 0) nx := by
  subst h
  exact okT_c (by decide +kernel)
theorem it_21 {nx : Int32} (h : nx = 32) : okT [116, 117, 114, 110] (317, 0) nx := by
  subst h
  exact okT_c (by decide +kernel)
theorem it_22 {nx : Int32} (h : nx = 59) : okT [48] (259, 0) nx := by
  subst h
  exact okT_c (by decide +kernel)
theorem it_23 {nx : Int32} (h : nx = 32) : okT [61] (61, 0) nx := by
  subst h
  exact okT_c (by decide +kernel)
theorem it_24 {nx : Int32} (h : nx = 32) : okT [98, 101, 108, 108, 115] (320, 0) nx := by
  subst h
  exact okT_c (by decide +kernel)
theorem it_25 {nx : Int32} (h : nx = 32) : okT [119, 104, 101, 110] (316, 0) nx := by
  subst h
  exact okT_c (by decide +kernel)
theorem it_26 {nx : Int32} (h : nx = 59) : okT [97] (258, 1) nx := by
  subst h
  exact okT_c (by decide +kernel)
theorem it_27 {nx : Int32} (h : nx = 59) : okT [53, 48] (259, 50) nx := by
  subst h
  exact okT_c (by decide +kernel)
theorem it_28 {nx : Int32} (h : nx = 32) : okT [60] (60, 0) nx := by
  subst h
  exact okT_c (by decide +kernel)
theorem it_29 {nx : Int32} (h : nx = 32) : okT [115, 111, 114, 101] (323, 0) nx := by
  subst h
  exact okT_c (by decide +kernel)
theorem it_30 {nx : Int32} (h : nx = 32) : okT [97, 110, 100] (328, 0) nx := by
  subst h
  exact okT_c (by decide +kernel)
theorem it_31 {nx : Int32} (h : nx = 32) : okT [52] (259, 4) nx := by
  subst h
  exact okT_c (by decide +kernel)
theorem it_32 {nx : Int32} (h : nx = 32) : okT [62] (62, 0) nx := by
  subst h
  exact okT_c (by decide +kernel)
theorem it_33 {nx : Int32} (h : nx = 32) : okT [104, 101, 105, 103, 104, 116] (319, 0) nx := by
  subst h
  exact okT_c (by decide +kernel)
theorem it_34 {nx : Int32} (h : nx = 32) : okT [50, 48] (259, 20) nx := by
  subst h
  exact okT_c (by decide +kernel)
theorem it_35 {nx : Int32} (h : nx = 32) : okT [111, 102] (315, 0) nx := by
  subst h
  exact okT_c (by decide +kernel)
theorem it_36 {nx : Int32} (h : nx = 32) : okT [50] (259, 2) nx := by
  subst h
  exact okT_c (by decide +kernel)
theorem it_37 {nx : Int32} (h : nx = 32) : okT [119, 111, 114, 116, 104] (314, 0) nx := by
  subst h
  exact okT_c (by decide +kernel)
theorem it_38 {nx : Int32} (h : nx = 32) : okT [113] (258, 17) nx := by
  subst h
  exact okT_c (by decide +kernel)
theorem it_39 {nx : Int32} (h : nx = 32) : okT [112, 114, 105, 122, 101] (313, 0) nx := by
  subst h
  exact okT_c (by decide +kernel)
theorem it_40 {nx : Int32} (h : nx = 59) : okT [114, 105, 110, 103, 115] (326, 0) nx := by
  subst h
  exact okT_c (by decide +kernel)
theorem it_41 {nx : Int32} (h : nx = 32) : okT [55] (259, 7) nx := by
  subst h
  exact okT_c (by decide +kernel)
theorem it_42 {nx : Int32} (h : nx = 32) : okT [53] (259, 5) nx := by
  subst h
  exact okT_c (by decide +kernel)
theorem it_43 {nx : Int32} (h : nx = 32) : okT [112] (258, 16) nx := by
  subst h
  exact okT_c (by decide +kernel)
theorem it_44 {nx : Int32} (h : nx = 112) : okT [59] (59, 0) nx := by
  subst h
  exact okT_c (by decide +kernel)
theorem endI_ok : okI endI := ⟨it_44 rfl, ⟨it_39 rfl, ⟨it_43 rfl, ⟨it_37 rfl, ⟨it_42 rfl, ⟨it_35 rfl, ⟨it_41 rfl, ⟨it_25 rfl, ⟨it_40 rfl, ⟨it_10 rfl, ⟨it_39 rfl, ⟨it_38 rfl, ⟨it_37 rfl, ⟨it_36 rfl, ⟨it_35 rfl, ⟨it_34 rfl, ⟨it_25 rfl, ⟨it_33 rfl, ⟨it_32 rfl, ⟨it_31 rfl, ⟨it_30 rfl, ⟨it_29 rfl, ⟨it_8 rfl, ⟨it_28 rfl, ⟨it_27 rfl, ⟨it_10 rfl, ⟨it_21 rfl, ⟨it_8 rfl, ⟨it_20 rfl, ⟨it_26 rfl, ⟨it_10 rfl, ⟨it_21 rfl, ⟨it_12 rfl, ⟨it_20 rfl, ⟨it_3 rfl, ⟨it_25 rfl, ⟨it_24 rfl, ⟨it_23 rfl, ⟨it_22 rfl, ⟨it_10 rfl, ⟨it_21 rfl, ⟨it_12 rfl, ⟨it_20 rfl, ⟨it_19 rfl, ⟨it_18 rfl, trivial⟩⟩⟩⟩⟩⟩⟩⟩⟩⟩⟩⟩⟩⟩⟩⟩⟩⟩⟩⟩⟩⟩⟩⟩⟩⟩⟩⟩⟩⟩⟩⟩⟩⟩⟩⟩⟩⟩⟩⟩⟩⟩⟩⟩⟩
theorem endI_ren : strN 13 ++ strN 14 = renI endI := by decide +kernel
def allI (r0 r1 : H3) (u0 u1 u2 : H4) (f0 f1 : H3) : List It := rail0I r0 (rail1I r1 (rustI u0 (rustI u1 (rustI u2 (fist0I f0 (fist1I f1 endI))))))
theorem allI_ok {r0 r1 : H3} {u0 u1 u2 : H4} {f0 f1 : H3} (hr : okR r0 ∧ okR r1) (hu : okU u0 ∧ okU u1 ∧ okU u2) (hf : okF f0 ∧ okF f1) : okI (allI r0 r1 u0 u1 u2 f0 f1) := rail0I_ok hr.1 rfl (rail1I_ok hr.2 rfl (rustI_ok hu.1 rfl (rustI_ok hu.2.1 rfl (rustI_ok hu.2.2 rfl (fist0I_ok hf.1 rfl (fist1I_ok hf.2 rfl endI_ok))))))
theorem allI_ren {r0 r1 : H3} {u0 u1 u2 : H4} {f0 f1 : H3} (hu : okU u0 ∧ okU u1 ∧ okU u2) : billT r0 r1 u0 u1 u2 f0 f1 ++ strN 14 = renI (allI r0 r1 u0 u1 u2 f0 f1) := by
  unfold billT allI
  rw [← rail0I_ren, ← rail1I_ren, ← rustI_ren hu.1, ← rustI_ren hu.2.1, ← rustI_ren hu.2.2, ← fist0I_ren, ← fist1I_ren, ← endI_ren]
  simp only [List.append_assoc]
theorem Suf.of {E : Tp} {l : List Int32} (h : TpL E l) : Suf E 0 l := ⟨by rw [Nat.zero_add]; exact h.1, fun j hj => by rw [Nat.zero_add]; exact h.2 j hj⟩

