/-! the cells that stand once both objects are made: the class's first, then the reference's; shelves are made later, two cells each -/
def sk_L : List am_Kd := [.inr (.inr 7), .inr (.inr 0), .inl (0, 128), .inr (.inr 0), .inl (0, 128), .inl (0, 128), .inr (.inl 8), .inr (.inr 2), .inl (0, 256), .inl (0, 256), .inl (0, 256), .inl (0, 257), .inr (.inr 1), .inl (0, 128), .inl (0, 128), .inl (0, 256), .inr (.inr 3), .inl (0, 200), .inr (.inr 4), .inr (.inr 5), .inr (.inl 9), .inr (.inr 0), .inl (0, 128), .inr (.inr 0), .inl (0, 128), .inr (.inr 0), .inl (0, 128), .inr (.inr 0), .inl (0, 128), .inr (.inr 0), .inl (0, 128), .inr (.inr 0), .inl (0, 128), .inr (.inr 0), .inl (0, 128), .inr (.inr 0), .inl (0, 128), .inr (.inr 0), .inl (0, 128), .inr (.inr 0), .inl (0, 128), .inr (.inr 6), .inl (0, 256), .inl (0, 128), .inr (.inr 8), .inl (0, 20), .inl (0, 20), .inl (1, 5780), .inl (2, 289), .inl (0, 256), .inl (0, 256), .inl (0, 256), .inl (0, 257), .inl (0, 256), .inl (0, 256), .inl (0, 200), .inl (0, 8), .inl (0, 8), .inl (0, 24), .inl (2, 8), .inl (2, 256), .inl (2, 289)]
def sk_K (a : Nat) : am_Kd := sk_L.getD a (.inr (.inl 0))
def sk_GL : List (List (Option Nat)) := [[some 1, some 3, some 5, some 6, some 7, some 12, some 16, some 18, some 41], [none, none, some 2], [], [none, none, some 4], [], [], [], [none, some 8, some 9, some 10, some 11], [], [], [], [], [none, some 13, some 14, some 15], [], [], [], [none, none, none, none, some 17], [], [some 16, some 19, some 6, some 20, some 39], [none, none, none, some 16], [some 21, some 23, some 25, some 27, some 29, some 31, some 33, some 35, some 37], [none, none, some 22], [], [none, none, some 24], [], [none, none, some 26], [], [none, none, some 28], [], [none, none, some 30], [], [none, none, some 32], [], [none, none, some 34], [], [none, none, some 36], [], [none, none, some 38], [], [none, none, some 40], [], [none, some 16, some 42, some 43], [], [], [some 45, some 46, some 47, some 48, none, some 49, some 50, some 51, some 52, some 53, none, none, some 54, some 55, none, none, none, none, none, none, none, none, some 56, some 57, some 58, some 59, none, some 60, some 61], [], [], [], [], [], [], [], [], [], [], [], [], [], [], [], [], []]
def sk_G (a k : Nat) : Option Nat := (sk_GL.getD a []).getD k none
def sk (S : am_S) : Prop := 62 ≤ S.1 ∧ (∀ a, a < 62 → S.2.1 a = sk_K a) ∧ (∀ a k, a < 62 → a ≠ 6 → S.2.2 a k = sk_G a k) ∧
  (∀ k c, k < 8 → S.2.2 6 k = some c → 62 ≤ c ∧ c % 2 = 0 ∧ am_dr S c (c + 1)) ∧ ∀ k k' c, k < 8 → k' < 8 → S.2.2 6 k = some c → S.2.2 6 k' = some c → k = k'
theorem sk_l {S : am_S} (h : sk S) (a : Nat) (ha : a < 62) : a < S.1 := Nat.lt_of_lt_of_le ha h.1
theorem sk_k0 {S : am_S} (h : sk S) : S.2.1 0 = .inr (.inr 7) := h.2.1 0 (by decide)
theorem sk_k1 {S : am_S} (h : sk S) : S.2.1 1 = .inr (.inr 0) := h.2.1 1 (by decide)
theorem sk_k2 {S : am_S} (h : sk S) : S.2.1 2 = .inl (0, 128) := h.2.1 2 (by decide)
theorem sk_k3 {S : am_S} (h : sk S) : S.2.1 3 = .inr (.inr 0) := h.2.1 3 (by decide)
theorem sk_k4 {S : am_S} (h : sk S) : S.2.1 4 = .inl (0, 128) := h.2.1 4 (by decide)
theorem sk_k5 {S : am_S} (h : sk S) : S.2.1 5 = .inl (0, 128) := h.2.1 5 (by decide)
theorem sk_k6 {S : am_S} (h : sk S) : S.2.1 6 = .inr (.inl 8) := h.2.1 6 (by decide)
theorem sk_k7 {S : am_S} (h : sk S) : S.2.1 7 = .inr (.inr 2) := h.2.1 7 (by decide)
theorem sk_k8 {S : am_S} (h : sk S) : S.2.1 8 = .inl (0, 256) := h.2.1 8 (by decide)
theorem sk_k9 {S : am_S} (h : sk S) : S.2.1 9 = .inl (0, 256) := h.2.1 9 (by decide)
theorem sk_k10 {S : am_S} (h : sk S) : S.2.1 10 = .inl (0, 256) := h.2.1 10 (by decide)
theorem sk_k11 {S : am_S} (h : sk S) : S.2.1 11 = .inl (0, 257) := h.2.1 11 (by decide)
theorem sk_k12 {S : am_S} (h : sk S) : S.2.1 12 = .inr (.inr 1) := h.2.1 12 (by decide)
theorem sk_k13 {S : am_S} (h : sk S) : S.2.1 13 = .inl (0, 128) := h.2.1 13 (by decide)
theorem sk_k14 {S : am_S} (h : sk S) : S.2.1 14 = .inl (0, 128) := h.2.1 14 (by decide)
theorem sk_k15 {S : am_S} (h : sk S) : S.2.1 15 = .inl (0, 256) := h.2.1 15 (by decide)
theorem sk_k16 {S : am_S} (h : sk S) : S.2.1 16 = .inr (.inr 3) := h.2.1 16 (by decide)
theorem sk_k17 {S : am_S} (h : sk S) : S.2.1 17 = .inl (0, 200) := h.2.1 17 (by decide)
theorem sk_k18 {S : am_S} (h : sk S) : S.2.1 18 = .inr (.inr 4) := h.2.1 18 (by decide)
theorem sk_k19 {S : am_S} (h : sk S) : S.2.1 19 = .inr (.inr 5) := h.2.1 19 (by decide)
theorem sk_k20 {S : am_S} (h : sk S) : S.2.1 20 = .inr (.inl 9) := h.2.1 20 (by decide)
theorem sk_k21 {S : am_S} (h : sk S) : S.2.1 21 = .inr (.inr 0) := h.2.1 21 (by decide)
theorem sk_k22 {S : am_S} (h : sk S) : S.2.1 22 = .inl (0, 128) := h.2.1 22 (by decide)
theorem sk_k23 {S : am_S} (h : sk S) : S.2.1 23 = .inr (.inr 0) := h.2.1 23 (by decide)
theorem sk_k24 {S : am_S} (h : sk S) : S.2.1 24 = .inl (0, 128) := h.2.1 24 (by decide)
theorem sk_k25 {S : am_S} (h : sk S) : S.2.1 25 = .inr (.inr 0) := h.2.1 25 (by decide)
theorem sk_k26 {S : am_S} (h : sk S) : S.2.1 26 = .inl (0, 128) := h.2.1 26 (by decide)
theorem sk_k27 {S : am_S} (h : sk S) : S.2.1 27 = .inr (.inr 0) := h.2.1 27 (by decide)
theorem sk_k28 {S : am_S} (h : sk S) : S.2.1 28 = .inl (0, 128) := h.2.1 28 (by decide)
theorem sk_k29 {S : am_S} (h : sk S) : S.2.1 29 = .inr (.inr 0) := h.2.1 29 (by decide)
theorem sk_k30 {S : am_S} (h : sk S) : S.2.1 30 = .inl (0, 128) := h.2.1 30 (by decide)
theorem sk_k31 {S : am_S} (h : sk S) : S.2.1 31 = .inr (.inr 0) := h.2.1 31 (by decide)
theorem sk_k32 {S : am_S} (h : sk S) : S.2.1 32 = .inl (0, 128) := h.2.1 32 (by decide)
theorem sk_k33 {S : am_S} (h : sk S) : S.2.1 33 = .inr (.inr 0) := h.2.1 33 (by decide)
theorem sk_k34 {S : am_S} (h : sk S) : S.2.1 34 = .inl (0, 128) := h.2.1 34 (by decide)
theorem sk_k35 {S : am_S} (h : sk S) : S.2.1 35 = .inr (.inr 0) := h.2.1 35 (by decide)
theorem sk_k36 {S : am_S} (h : sk S) : S.2.1 36 = .inl (0, 128) := h.2.1 36 (by decide)
theorem sk_k37 {S : am_S} (h : sk S) : S.2.1 37 = .inr (.inr 0) := h.2.1 37 (by decide)
theorem sk_k38 {S : am_S} (h : sk S) : S.2.1 38 = .inl (0, 128) := h.2.1 38 (by decide)
theorem sk_k39 {S : am_S} (h : sk S) : S.2.1 39 = .inr (.inr 0) := h.2.1 39 (by decide)
theorem sk_k40 {S : am_S} (h : sk S) : S.2.1 40 = .inl (0, 128) := h.2.1 40 (by decide)
theorem sk_k41 {S : am_S} (h : sk S) : S.2.1 41 = .inr (.inr 6) := h.2.1 41 (by decide)
theorem sk_k42 {S : am_S} (h : sk S) : S.2.1 42 = .inl (0, 256) := h.2.1 42 (by decide)
theorem sk_k43 {S : am_S} (h : sk S) : S.2.1 43 = .inl (0, 128) := h.2.1 43 (by decide)
theorem sk_k44 {S : am_S} (h : sk S) : S.2.1 44 = .inr (.inr 8) := h.2.1 44 (by decide)
theorem sk_k45 {S : am_S} (h : sk S) : S.2.1 45 = .inl (0, 20) := h.2.1 45 (by decide)
theorem sk_k46 {S : am_S} (h : sk S) : S.2.1 46 = .inl (0, 20) := h.2.1 46 (by decide)
theorem sk_k47 {S : am_S} (h : sk S) : S.2.1 47 = .inl (1, 5780) := h.2.1 47 (by decide)
theorem sk_k48 {S : am_S} (h : sk S) : S.2.1 48 = .inl (2, 289) := h.2.1 48 (by decide)
theorem sk_k49 {S : am_S} (h : sk S) : S.2.1 49 = .inl (0, 256) := h.2.1 49 (by decide)
theorem sk_k50 {S : am_S} (h : sk S) : S.2.1 50 = .inl (0, 256) := h.2.1 50 (by decide)
theorem sk_k51 {S : am_S} (h : sk S) : S.2.1 51 = .inl (0, 256) := h.2.1 51 (by decide)
theorem sk_k52 {S : am_S} (h : sk S) : S.2.1 52 = .inl (0, 257) := h.2.1 52 (by decide)
theorem sk_k53 {S : am_S} (h : sk S) : S.2.1 53 = .inl (0, 256) := h.2.1 53 (by decide)
theorem sk_k54 {S : am_S} (h : sk S) : S.2.1 54 = .inl (0, 256) := h.2.1 54 (by decide)
theorem sk_k55 {S : am_S} (h : sk S) : S.2.1 55 = .inl (0, 200) := h.2.1 55 (by decide)
theorem sk_k56 {S : am_S} (h : sk S) : S.2.1 56 = .inl (0, 8) := h.2.1 56 (by decide)
theorem sk_k57 {S : am_S} (h : sk S) : S.2.1 57 = .inl (0, 8) := h.2.1 57 (by decide)
theorem sk_k58 {S : am_S} (h : sk S) : S.2.1 58 = .inl (0, 24) := h.2.1 58 (by decide)
theorem sk_k59 {S : am_S} (h : sk S) : S.2.1 59 = .inl (2, 8) := h.2.1 59 (by decide)
theorem sk_k60 {S : am_S} (h : sk S) : S.2.1 60 = .inl (2, 256) := h.2.1 60 (by decide)
theorem sk_k61 {S : am_S} (h : sk S) : S.2.1 61 = .inl (2, 289) := h.2.1 61 (by decide)
theorem sk_r0_0 {S : am_S} (h : sk S) : S.2.2 0 0 = some 1 := h.2.2.1 0 0 (by decide) (by decide)
theorem sk_r0_1 {S : am_S} (h : sk S) : S.2.2 0 1 = some 3 := h.2.2.1 0 1 (by decide) (by decide)
theorem sk_r0_2 {S : am_S} (h : sk S) : S.2.2 0 2 = some 5 := h.2.2.1 0 2 (by decide) (by decide)
theorem sk_r0_3 {S : am_S} (h : sk S) : S.2.2 0 3 = some 6 := h.2.2.1 0 3 (by decide) (by decide)
theorem sk_r0_4 {S : am_S} (h : sk S) : S.2.2 0 4 = some 7 := h.2.2.1 0 4 (by decide) (by decide)
theorem sk_r0_5 {S : am_S} (h : sk S) : S.2.2 0 5 = some 12 := h.2.2.1 0 5 (by decide) (by decide)
theorem sk_r0_6 {S : am_S} (h : sk S) : S.2.2 0 6 = some 16 := h.2.2.1 0 6 (by decide) (by decide)
theorem sk_r0_7 {S : am_S} (h : sk S) : S.2.2 0 7 = some 18 := h.2.2.1 0 7 (by decide) (by decide)
theorem sk_r0_8 {S : am_S} (h : sk S) : S.2.2 0 8 = some 41 := h.2.2.1 0 8 (by decide) (by decide)
theorem sk_r1_2 {S : am_S} (h : sk S) : S.2.2 1 2 = some 2 := h.2.2.1 1 2 (by decide) (by decide)
theorem sk_r3_2 {S : am_S} (h : sk S) : S.2.2 3 2 = some 4 := h.2.2.1 3 2 (by decide) (by decide)
theorem sk_r7_1 {S : am_S} (h : sk S) : S.2.2 7 1 = some 8 := h.2.2.1 7 1 (by decide) (by decide)
theorem sk_r7_2 {S : am_S} (h : sk S) : S.2.2 7 2 = some 9 := h.2.2.1 7 2 (by decide) (by decide)
theorem sk_r7_3 {S : am_S} (h : sk S) : S.2.2 7 3 = some 10 := h.2.2.1 7 3 (by decide) (by decide)
theorem sk_r7_4 {S : am_S} (h : sk S) : S.2.2 7 4 = some 11 := h.2.2.1 7 4 (by decide) (by decide)
theorem sk_r12_1 {S : am_S} (h : sk S) : S.2.2 12 1 = some 13 := h.2.2.1 12 1 (by decide) (by decide)
theorem sk_r12_2 {S : am_S} (h : sk S) : S.2.2 12 2 = some 14 := h.2.2.1 12 2 (by decide) (by decide)
theorem sk_r12_3 {S : am_S} (h : sk S) : S.2.2 12 3 = some 15 := h.2.2.1 12 3 (by decide) (by decide)
theorem sk_r16_4 {S : am_S} (h : sk S) : S.2.2 16 4 = some 17 := h.2.2.1 16 4 (by decide) (by decide)
theorem sk_r18_0 {S : am_S} (h : sk S) : S.2.2 18 0 = some 16 := h.2.2.1 18 0 (by decide) (by decide)
theorem sk_r18_1 {S : am_S} (h : sk S) : S.2.2 18 1 = some 19 := h.2.2.1 18 1 (by decide) (by decide)
theorem sk_r18_2 {S : am_S} (h : sk S) : S.2.2 18 2 = some 6 := h.2.2.1 18 2 (by decide) (by decide)
theorem sk_r18_3 {S : am_S} (h : sk S) : S.2.2 18 3 = some 20 := h.2.2.1 18 3 (by decide) (by decide)
theorem sk_r18_4 {S : am_S} (h : sk S) : S.2.2 18 4 = some 39 := h.2.2.1 18 4 (by decide) (by decide)
theorem sk_r19_3 {S : am_S} (h : sk S) : S.2.2 19 3 = some 16 := h.2.2.1 19 3 (by decide) (by decide)
theorem sk_r21_2 {S : am_S} (h : sk S) : S.2.2 21 2 = some 22 := h.2.2.1 21 2 (by decide) (by decide)
theorem sk_r23_2 {S : am_S} (h : sk S) : S.2.2 23 2 = some 24 := h.2.2.1 23 2 (by decide) (by decide)
theorem sk_r25_2 {S : am_S} (h : sk S) : S.2.2 25 2 = some 26 := h.2.2.1 25 2 (by decide) (by decide)
theorem sk_r27_2 {S : am_S} (h : sk S) : S.2.2 27 2 = some 28 := h.2.2.1 27 2 (by decide) (by decide)
theorem sk_r29_2 {S : am_S} (h : sk S) : S.2.2 29 2 = some 30 := h.2.2.1 29 2 (by decide) (by decide)
theorem sk_r31_2 {S : am_S} (h : sk S) : S.2.2 31 2 = some 32 := h.2.2.1 31 2 (by decide) (by decide)
theorem sk_r33_2 {S : am_S} (h : sk S) : S.2.2 33 2 = some 34 := h.2.2.1 33 2 (by decide) (by decide)
theorem sk_r35_2 {S : am_S} (h : sk S) : S.2.2 35 2 = some 36 := h.2.2.1 35 2 (by decide) (by decide)
theorem sk_r37_2 {S : am_S} (h : sk S) : S.2.2 37 2 = some 38 := h.2.2.1 37 2 (by decide) (by decide)
theorem sk_r39_2 {S : am_S} (h : sk S) : S.2.2 39 2 = some 40 := h.2.2.1 39 2 (by decide) (by decide)
theorem sk_r41_1 {S : am_S} (h : sk S) : S.2.2 41 1 = some 16 := h.2.2.1 41 1 (by decide) (by decide)
theorem sk_r41_2 {S : am_S} (h : sk S) : S.2.2 41 2 = some 42 := h.2.2.1 41 2 (by decide) (by decide)
theorem sk_r41_3 {S : am_S} (h : sk S) : S.2.2 41 3 = some 43 := h.2.2.1 41 3 (by decide) (by decide)
theorem sk_r44_0 {S : am_S} (h : sk S) : S.2.2 44 0 = some 45 := h.2.2.1 44 0 (by decide) (by decide)
theorem sk_r44_1 {S : am_S} (h : sk S) : S.2.2 44 1 = some 46 := h.2.2.1 44 1 (by decide) (by decide)
theorem sk_r44_2 {S : am_S} (h : sk S) : S.2.2 44 2 = some 47 := h.2.2.1 44 2 (by decide) (by decide)
theorem sk_r44_3 {S : am_S} (h : sk S) : S.2.2 44 3 = some 48 := h.2.2.1 44 3 (by decide) (by decide)
theorem sk_r44_5 {S : am_S} (h : sk S) : S.2.2 44 5 = some 49 := h.2.2.1 44 5 (by decide) (by decide)
theorem sk_r44_6 {S : am_S} (h : sk S) : S.2.2 44 6 = some 50 := h.2.2.1 44 6 (by decide) (by decide)
theorem sk_r44_7 {S : am_S} (h : sk S) : S.2.2 44 7 = some 51 := h.2.2.1 44 7 (by decide) (by decide)
theorem sk_r44_8 {S : am_S} (h : sk S) : S.2.2 44 8 = some 52 := h.2.2.1 44 8 (by decide) (by decide)
theorem sk_r44_9 {S : am_S} (h : sk S) : S.2.2 44 9 = some 53 := h.2.2.1 44 9 (by decide) (by decide)
theorem sk_r44_12 {S : am_S} (h : sk S) : S.2.2 44 12 = some 54 := h.2.2.1 44 12 (by decide) (by decide)
theorem sk_r44_13 {S : am_S} (h : sk S) : S.2.2 44 13 = some 55 := h.2.2.1 44 13 (by decide) (by decide)
theorem sk_r44_22 {S : am_S} (h : sk S) : S.2.2 44 22 = some 56 := h.2.2.1 44 22 (by decide) (by decide)
theorem sk_r44_23 {S : am_S} (h : sk S) : S.2.2 44 23 = some 57 := h.2.2.1 44 23 (by decide) (by decide)
theorem sk_r44_24 {S : am_S} (h : sk S) : S.2.2 44 24 = some 58 := h.2.2.1 44 24 (by decide) (by decide)
theorem sk_r44_25 {S : am_S} (h : sk S) : S.2.2 44 25 = some 59 := h.2.2.1 44 25 (by decide) (by decide)
theorem sk_r44_27 {S : am_S} (h : sk S) : S.2.2 44 27 = some 60 := h.2.2.1 44 27 (by decide) (by decide)
theorem sk_r44_28 {S : am_S} (h : sk S) : S.2.2 44 28 = some 61 := h.2.2.1 44 28 (by decide) (by decide)
theorem sk_d1 {S : am_S} (h : sk S) : am_dr S 1 2 := ⟨sk_l h 1 (by decide), sk_k1 h, sk_r1_2 h, sk_l h 2 (by decide), sk_k2 h⟩
theorem sk_d3 {S : am_S} (h : sk S) : am_dr S 3 4 := ⟨sk_l h 3 (by decide), sk_k3 h, sk_r3_2 h, sk_l h 4 (by decide), sk_k4 h⟩
theorem sk_d39 {S : am_S} (h : sk S) : am_dr S 39 40 := ⟨sk_l h 39 (by decide), sk_k39 h, sk_r39_2 h, sk_l h 40 (by decide), sk_k40 h⟩
theorem sk_d21 {S : am_S} (h : sk S) : am_dr S 21 22 := ⟨sk_l h 21 (by decide), sk_k21 h, sk_r21_2 h, sk_l h 22 (by decide), sk_k22 h⟩
theorem sk_d23 {S : am_S} (h : sk S) : am_dr S 23 24 := ⟨sk_l h 23 (by decide), sk_k23 h, sk_r23_2 h, sk_l h 24 (by decide), sk_k24 h⟩
theorem sk_d25 {S : am_S} (h : sk S) : am_dr S 25 26 := ⟨sk_l h 25 (by decide), sk_k25 h, sk_r25_2 h, sk_l h 26 (by decide), sk_k26 h⟩
theorem sk_d27 {S : am_S} (h : sk S) : am_dr S 27 28 := ⟨sk_l h 27 (by decide), sk_k27 h, sk_r27_2 h, sk_l h 28 (by decide), sk_k28 h⟩
theorem sk_d29 {S : am_S} (h : sk S) : am_dr S 29 30 := ⟨sk_l h 29 (by decide), sk_k29 h, sk_r29_2 h, sk_l h 30 (by decide), sk_k30 h⟩
theorem sk_d31 {S : am_S} (h : sk S) : am_dr S 31 32 := ⟨sk_l h 31 (by decide), sk_k31 h, sk_r31_2 h, sk_l h 32 (by decide), sk_k32 h⟩
theorem sk_d33 {S : am_S} (h : sk S) : am_dr S 33 34 := ⟨sk_l h 33 (by decide), sk_k33 h, sk_r33_2 h, sk_l h 34 (by decide), sk_k34 h⟩
theorem sk_d35 {S : am_S} (h : sk S) : am_dr S 35 36 := ⟨sk_l h 35 (by decide), sk_k35 h, sk_r35_2 h, sk_l h 36 (by decide), sk_k36 h⟩
theorem sk_d37 {S : am_S} (h : sk S) : am_dr S 37 38 := ⟨sk_l h 37 (by decide), sk_k37 h, sk_r37_2 h, sk_l h 38 (by decide), sk_k38 h⟩
/-- slot k of the text reader -/
theorem sk_ds {S : am_S} (h : sk S) {k : Nat} (hk : k < 9) : S.2.2 20 k = some (21 + 2 * k) ∧ am_dr S (21 + 2 * k) (22 + 2 * k) := by
  rcases (show k = 0 ∨ k = 1 ∨ k = 2 ∨ k = 3 ∨ k = 4 ∨ k = 5 ∨ k = 6 ∨ k = 7 ∨ k = 8 by omega) with rfl | rfl | rfl | rfl | rfl | rfl | rfl | rfl | rfl
  · exact ⟨h.2.2.1 20 0 (by decide) (by decide), sk_d21 h⟩
  · exact ⟨h.2.2.1 20 1 (by decide) (by decide), sk_d23 h⟩
  · exact ⟨h.2.2.1 20 2 (by decide) (by decide), sk_d25 h⟩
  · exact ⟨h.2.2.1 20 3 (by decide) (by decide), sk_d27 h⟩
  · exact ⟨h.2.2.1 20 4 (by decide) (by decide), sk_d29 h⟩
  · exact ⟨h.2.2.1 20 5 (by decide) (by decide), sk_d31 h⟩
  · exact ⟨h.2.2.1 20 6 (by decide) (by decide), sk_d33 h⟩
  · exact ⟨h.2.2.1 20 7 (by decide) (by decide), sk_d35 h⟩
  · exact ⟨h.2.2.1 20 8 (by decide) (by decide), sk_d37 h⟩
