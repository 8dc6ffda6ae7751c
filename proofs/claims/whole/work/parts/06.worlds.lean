theorem pf1_2 : pf1 2 0 .int := ⟨rfl, by decide, rfl, by decide +kernel⟩
theorem pf1_3 : pf1 3 0 .int := ⟨rfl, by decide, rfl, by decide +kernel⟩
theorem pf1_4 : pf1 4 0 .int := ⟨rfl, by decide, rfl, by decide +kernel⟩
theorem pf1_5 : pf1 5 0 .int := ⟨rfl, by decide, rfl, by decide +kernel⟩
theorem pf2_1 : pf2 1 0 .int := ⟨rfl, by decide, rfl, by decide +kernel⟩
theorem pf3_0 : pf3 0 0 .int := ⟨rfl, by decide, rfl, by decide +kernel⟩
theorem pf3_1 : pf3 1 0 .int := ⟨rfl, by decide, rfl, by decide +kernel⟩
theorem pf3_2 : pf3 2 0 .int := ⟨rfl, by decide, rfl, by decide +kernel⟩
theorem pf3_3 : pf3 3 0 .int := ⟨rfl, by decide, rfl, by decide +kernel⟩
theorem pf3_4 : pf3 4 0 .int := ⟨rfl, by decide, rfl, by decide +kernel⟩
theorem pf3_5 : pf3 5 0 .int := ⟨rfl, by decide, rfl, by decide +kernel⟩
theorem pf4_4 : pf4 4 0 .int := ⟨rfl, by decide, rfl, by decide +kernel⟩
theorem pf4_5 : pf4 5 0 .int := ⟨rfl, by decide, rfl, by decide +kernel⟩
theorem pf4_6 : pf4 6 0 .int := ⟨rfl, by decide, rfl, by decide +kernel⟩
theorem pf4_7 : pf4 7 0 .int := ⟨rfl, by decide, rfl, by decide +kernel⟩
theorem pf4_8 : pf4 8 0 .int := ⟨rfl, by decide, rfl, by decide +kernel⟩
theorem pf5_1 : pf5 1 0 .int := ⟨rfl, by decide, rfl, by decide +kernel⟩
theorem pf5_2 : pf5 2 0 .int := ⟨rfl, by decide, rfl, by decide +kernel⟩
theorem pf5_3 : pf5 3 0 .int := ⟨rfl, by decide, rfl, by decide +kernel⟩
theorem pf5_4 : pf5 4 0 .int := ⟨rfl, by decide, rfl, by decide +kernel⟩
theorem pf5_5 : pf5 5 0 .int := ⟨rfl, by decide, rfl, by decide +kernel⟩
theorem pf5_18 : pf5 18 0 .int := ⟨rfl, by decide, rfl, by decide +kernel⟩
theorem pf5_19 : pf5 19 0 .int := ⟨rfl, by decide, rfl, by decide +kernel⟩
theorem pf5_20 : pf5 20 0 .int := ⟨rfl, by decide, rfl, by decide +kernel⟩
theorem pf5_21 : pf5 21 0 .int := ⟨rfl, by decide, rfl, by decide +kernel⟩
theorem pf5_22 : pf5 22 0 .int := ⟨rfl, by decide, rfl, by decide +kernel⟩
theorem pf5_25 : pf5 25 0 .int := ⟨rfl, by decide, rfl, by decide +kernel⟩
theorem pf5_27 : pf5 27 0 .int := ⟨rfl, by decide, rfl, by decide +kernel⟩
theorem pf5_29 : pf5 29 1 .long := ⟨rfl, by decide, rfl, by decide +kernel⟩
theorem pf5_30 : pf5 30 1 .long := ⟨rfl, by decide, rfl, by decide +kernel⟩
theorem pf5_33 : pf5 33 1 .long := ⟨rfl, by decide, rfl, by decide +kernel⟩
/-- a village stands at v, its rows behind it -/
def VL (w : WG) (v : Nat) : Prop := (gK w)[v]? = some (2, 0) ∧ (gK w)[v + 1]? = some (6, 4) ∧ (gK w)[v + 2]? = some (6, 4) ∧ (gK w)[v + 3]? = some (6, 4) ∧ (gK w)[v + 4]? = some (6, 7) ∧ (gK w)[v + 5]? = some (6, 7) ∧ (gK w)[v + 6]? = some (6, 7) ∧ (gK w)[v + 7]? = some (6, 7) ∧ (gK w)[v + 8]? = some (6, 24) ∧ (gK w)[v + 9]? = some (6, 80) ∧ gP w v 6 = some (gA w (v + 1)) ∧ gP w v 7 = some (gA w (v + 2)) ∧ gP w v 8 = some (gA w (v + 3)) ∧ gP w v 9 = some (gA w (v + 4)) ∧ gP w v 10 = some (gA w (v + 5)) ∧ gP w v 11 = some (gA w (v + 6)) ∧ gP w v 12 = some (gA w (v + 7)) ∧ gP w v 13 = some (gA w (v + 8)) ∧ gP w v 14 = some (gA w (v + 9))
theorem VL.k0 {w : WG} {v : Nat} (h : VL w v) : (gK w)[v]? = some (2, 0) := h.1
theorem VL.k1 {w : WG} {v : Nat} (h : VL w v) : (gK w)[v + 1]? = some (6, 4) := h.2.1
theorem VL.k2 {w : WG} {v : Nat} (h : VL w v) : (gK w)[v + 2]? = some (6, 4) := h.2.2.1
theorem VL.k3 {w : WG} {v : Nat} (h : VL w v) : (gK w)[v + 3]? = some (6, 4) := h.2.2.2.1
theorem VL.k4 {w : WG} {v : Nat} (h : VL w v) : (gK w)[v + 4]? = some (6, 7) := h.2.2.2.2.1
theorem VL.k5 {w : WG} {v : Nat} (h : VL w v) : (gK w)[v + 5]? = some (6, 7) := h.2.2.2.2.2.1
theorem VL.k6 {w : WG} {v : Nat} (h : VL w v) : (gK w)[v + 6]? = some (6, 7) := h.2.2.2.2.2.2.1
theorem VL.k7 {w : WG} {v : Nat} (h : VL w v) : (gK w)[v + 7]? = some (6, 7) := h.2.2.2.2.2.2.2.1
theorem VL.k8 {w : WG} {v : Nat} (h : VL w v) : (gK w)[v + 8]? = some (6, 24) := h.2.2.2.2.2.2.2.2.1
theorem VL.k9 {w : WG} {v : Nat} (h : VL w v) : (gK w)[v + 9]? = some (6, 80) := h.2.2.2.2.2.2.2.2.2.1
theorem VL.p6 {w : WG} {v : Nat} (h : VL w v) : gP w v 6 = some (gA w (v + 1)) := h.2.2.2.2.2.2.2.2.2.2.1
theorem VL.p7 {w : WG} {v : Nat} (h : VL w v) : gP w v 7 = some (gA w (v + 2)) := h.2.2.2.2.2.2.2.2.2.2.2.1
theorem VL.p8 {w : WG} {v : Nat} (h : VL w v) : gP w v 8 = some (gA w (v + 3)) := h.2.2.2.2.2.2.2.2.2.2.2.2.1
theorem VL.p9 {w : WG} {v : Nat} (h : VL w v) : gP w v 9 = some (gA w (v + 4)) := h.2.2.2.2.2.2.2.2.2.2.2.2.2.1
theorem VL.p10 {w : WG} {v : Nat} (h : VL w v) : gP w v 10 = some (gA w (v + 5)) := h.2.2.2.2.2.2.2.2.2.2.2.2.2.2.1
theorem VL.p11 {w : WG} {v : Nat} (h : VL w v) : gP w v 11 = some (gA w (v + 6)) := h.2.2.2.2.2.2.2.2.2.2.2.2.2.2.2.1
theorem VL.p12 {w : WG} {v : Nat} (h : VL w v) : gP w v 12 = some (gA w (v + 7)) := h.2.2.2.2.2.2.2.2.2.2.2.2.2.2.2.2.1
theorem VL.p13 {w : WG} {v : Nat} (h : VL w v) : gP w v 13 = some (gA w (v + 8)) := h.2.2.2.2.2.2.2.2.2.2.2.2.2.2.2.2.2.1
theorem VL.p14 {w : WG} {v : Nat} (h : VL w v) : gP w v 14 = some (gA w (v + 9)) := h.2.2.2.2.2.2.2.2.2.2.2.2.2.2.2.2.2.2
/-- a text stands at t -/
def TL (w : WG) (t : Nat) : Prop := (gK w)[t]? = some (1, 0) ∧ (gK w)[t + 1]? = some (5, 150) ∧ gP w t 0 = some (gA w (t + 1))
theorem TL.k0 {w : WG} {t : Nat} (h : TL w t) : (gK w)[t]? = some (1, 0) := h.1
theorem TL.k1 {w : WG} {t : Nat} (h : TL w t) : (gK w)[t + 1]? = some (5, 150) := h.2.1
theorem TL.p0 {w : WG} {t : Nat} (h : TL w t) : gP w t 0 = some (gA w (t + 1)) := h.2.2
/-- the class stands at 0 -/
def XL (w : WG) : Prop := (gK w)[0]? = some (3, 0) ∧ VL w 1 ∧ VL w 11 ∧ (gK w)[21]? = some (7, 2) ∧ TL w 22 ∧ (gK w)[24]? = some (6, 4) ∧ (gK w)[25]? = some (6, 64) ∧ (gK w)[26]? = some (6, 64) ∧ gP w 0 0 = some (gA w 1) ∧ gP w 0 1 = some (gA w 11) ∧ gP w 0 2 = some (gA w 21) ∧ gP w 0 3 = some (gA w 22) ∧ gP w 0 9 = some (gA w 24) ∧ gP w 0 10 = some (gA w 25) ∧ gP w 0 11 = some (gA w 26)
theorem XL.k0 {w : WG} (h : XL w) : (gK w)[0]? = some (3, 0) := h.1
theorem XL.now {w : WG} (h : XL w) : VL w 1 := h.2.1
theorem XL.spare {w : WG} (h : XL w) : VL w 11 := h.2.2.1
theorem XL.k21 {w : WG} (h : XL w) : (gK w)[21]? = some (7, 2) := h.2.2.2.1
theorem XL.text {w : WG} (h : XL w) : TL w 22 := h.2.2.2.2.1
theorem XL.k24 {w : WG} (h : XL w) : (gK w)[24]? = some (6, 4) := h.2.2.2.2.2.1
theorem XL.k25 {w : WG} (h : XL w) : (gK w)[25]? = some (6, 64) := h.2.2.2.2.2.2.1
theorem XL.k26 {w : WG} (h : XL w) : (gK w)[26]? = some (6, 64) := h.2.2.2.2.2.2.2.1
theorem XL.p0 {w : WG} (h : XL w) : gP w 0 0 = some (gA w 1) := h.2.2.2.2.2.2.2.2.1
theorem XL.p1 {w : WG} (h : XL w) : gP w 0 1 = some (gA w 11) := h.2.2.2.2.2.2.2.2.2.1
theorem XL.p2 {w : WG} (h : XL w) : gP w 0 2 = some (gA w 21) := h.2.2.2.2.2.2.2.2.2.2.1
theorem XL.p3 {w : WG} (h : XL w) : gP w 0 3 = some (gA w 22) := h.2.2.2.2.2.2.2.2.2.2.2.1
theorem XL.p9 {w : WG} (h : XL w) : gP w 0 9 = some (gA w 24) := h.2.2.2.2.2.2.2.2.2.2.2.2.1
theorem XL.p10 {w : WG} (h : XL w) : gP w 0 10 = some (gA w 25) := h.2.2.2.2.2.2.2.2.2.2.2.2.2.1
theorem XL.p11 {w : WG} (h : XL w) : gP w 0 11 = some (gA w 26) := h.2.2.2.2.2.2.2.2.2.2.2.2.2.2
/-- a reader stands at r, over the text at t, into the village at v -/
def RL1 (w : WG) (r t v : Nat) : Prop := (gK w)[r]? = some (0, 0) ∧ TL w t ∧ VL w v ∧ gP w r 0 = some (gA w t) ∧ gP w r 1 = some (gA w v)
theorem RL1.k0 {w : WG} {r t v : Nat} (h : RL1 w r t v) : (gK w)[r]? = some (0, 0) := h.1
theorem RL1.text {w : WG} {r t v : Nat} (h : RL1 w r t v) : TL w t := h.2.1
theorem RL1.into {w : WG} {r t v : Nat} (h : RL1 w r t v) : VL w v := h.2.2.1
theorem RL1.p0 {w : WG} {r t v : Nat} (h : RL1 w r t v) : gP w r 0 = some (gA w t) := h.2.2.2.1
theorem RL1.p1 {w : WG} {r t v : Nat} (h : RL1 w r t v) : gP w r 1 = some (gA w v) := h.2.2.2.2
/-- the model stands at 0 -/
def ML (w : WG) : Prop := (gK w)[0]? = some (4, 0) ∧ (gK w)[1]? = some (6, 3) ∧ (gK w)[2]? = some (6, 4) ∧ (gK w)[3]? = some (6, 4) ∧ (gK w)[4]? = some (6, 4) ∧ (gK w)[5]? = some (6, 7) ∧ (gK w)[6]? = some (6, 7) ∧ (gK w)[7]? = some (6, 7) ∧ (gK w)[8]? = some (6, 7) ∧ (gK w)[9]? = some (6, 6) ∧ (gK w)[10]? = some (6, 6) ∧ (gK w)[11]? = some (6, 6) ∧ (gK w)[12]? = some (6, 6) ∧ (gK w)[13]? = some (6, 150) ∧ (gK w)[14]? = some (6, 8) ∧ (gK w)[15]? = some (6, 28) ∧ (gK w)[16]? = some (6, 80) ∧ (gK w)[17]? = some (6, 10) ∧ (gK w)[18]? = some (6, 300) ∧ (gK w)[19]? = some (6, 2) ∧ gP w 0 0 = some (gA w 1) ∧ gP w 0 6 = some (gA w 2) ∧ gP w 0 7 = some (gA w 3) ∧ gP w 0 8 = some (gA w 4) ∧ gP w 0 9 = some (gA w 5) ∧ gP w 0 10 = some (gA w 6) ∧ gP w 0 11 = some (gA w 7) ∧ gP w 0 12 = some (gA w 8) ∧ gP w 0 13 = some (gA w 9) ∧ gP w 0 14 = some (gA w 10) ∧ gP w 0 15 = some (gA w 11) ∧ gP w 0 16 = some (gA w 12) ∧ gP w 0 17 = some (gA w 13) ∧ gP w 0 23 = some (gA w 14) ∧ gP w 0 24 = some (gA w 15) ∧ gP w 0 26 = some (gA w 16) ∧ gP w 0 28 = some (gA w 17) ∧ gP w 0 31 = some (gA w 18) ∧ gP w 0 32 = some (gA w 19)
theorem ML.k0 {w : WG} (h : ML w) : (gK w)[0]? = some (4, 0) := h.1
theorem ML.k1 {w : WG} (h : ML w) : (gK w)[1]? = some (6, 3) := h.2.1
theorem ML.k2 {w : WG} (h : ML w) : (gK w)[2]? = some (6, 4) := h.2.2.1
theorem ML.k3 {w : WG} (h : ML w) : (gK w)[3]? = some (6, 4) := h.2.2.2.1
theorem ML.k4 {w : WG} (h : ML w) : (gK w)[4]? = some (6, 4) := h.2.2.2.2.1
theorem ML.k5 {w : WG} (h : ML w) : (gK w)[5]? = some (6, 7) := h.2.2.2.2.2.1
theorem ML.k6 {w : WG} (h : ML w) : (gK w)[6]? = some (6, 7) := h.2.2.2.2.2.2.1
theorem ML.k7 {w : WG} (h : ML w) : (gK w)[7]? = some (6, 7) := h.2.2.2.2.2.2.2.1
theorem ML.k8 {w : WG} (h : ML w) : (gK w)[8]? = some (6, 7) := h.2.2.2.2.2.2.2.2.1
theorem ML.k9 {w : WG} (h : ML w) : (gK w)[9]? = some (6, 6) := h.2.2.2.2.2.2.2.2.2.1
theorem ML.k10 {w : WG} (h : ML w) : (gK w)[10]? = some (6, 6) := h.2.2.2.2.2.2.2.2.2.2.1
theorem ML.k11 {w : WG} (h : ML w) : (gK w)[11]? = some (6, 6) := h.2.2.2.2.2.2.2.2.2.2.2.1
theorem ML.k12 {w : WG} (h : ML w) : (gK w)[12]? = some (6, 6) := h.2.2.2.2.2.2.2.2.2.2.2.2.1
theorem ML.k13 {w : WG} (h : ML w) : (gK w)[13]? = some (6, 150) := h.2.2.2.2.2.2.2.2.2.2.2.2.2.1
theorem ML.k14 {w : WG} (h : ML w) : (gK w)[14]? = some (6, 8) := h.2.2.2.2.2.2.2.2.2.2.2.2.2.2.1
theorem ML.k15 {w : WG} (h : ML w) : (gK w)[15]? = some (6, 28) := h.2.2.2.2.2.2.2.2.2.2.2.2.2.2.2.1
theorem ML.k16 {w : WG} (h : ML w) : (gK w)[16]? = some (6, 80) := h.2.2.2.2.2.2.2.2.2.2.2.2.2.2.2.2.1
theorem ML.k17 {w : WG} (h : ML w) : (gK w)[17]? = some (6, 10) := h.2.2.2.2.2.2.2.2.2.2.2.2.2.2.2.2.2.1
theorem ML.k18 {w : WG} (h : ML w) : (gK w)[18]? = some (6, 300) := h.2.2.2.2.2.2.2.2.2.2.2.2.2.2.2.2.2.2.1
theorem ML.k19 {w : WG} (h : ML w) : (gK w)[19]? = some (6, 2) := h.2.2.2.2.2.2.2.2.2.2.2.2.2.2.2.2.2.2.2.1
theorem ML.q1 {w : WG} (h : ML w) : gP w 0 0 = some (gA w 1) := h.2.2.2.2.2.2.2.2.2.2.2.2.2.2.2.2.2.2.2.2.1
theorem ML.q2 {w : WG} (h : ML w) : gP w 0 6 = some (gA w 2) := h.2.2.2.2.2.2.2.2.2.2.2.2.2.2.2.2.2.2.2.2.2.1
theorem ML.q3 {w : WG} (h : ML w) : gP w 0 7 = some (gA w 3) := h.2.2.2.2.2.2.2.2.2.2.2.2.2.2.2.2.2.2.2.2.2.2.1
theorem ML.q4 {w : WG} (h : ML w) : gP w 0 8 = some (gA w 4) := h.2.2.2.2.2.2.2.2.2.2.2.2.2.2.2.2.2.2.2.2.2.2.2.1
theorem ML.q5 {w : WG} (h : ML w) : gP w 0 9 = some (gA w 5) := h.2.2.2.2.2.2.2.2.2.2.2.2.2.2.2.2.2.2.2.2.2.2.2.2.1
theorem ML.q6 {w : WG} (h : ML w) : gP w 0 10 = some (gA w 6) := h.2.2.2.2.2.2.2.2.2.2.2.2.2.2.2.2.2.2.2.2.2.2.2.2.2.1
theorem ML.q7 {w : WG} (h : ML w) : gP w 0 11 = some (gA w 7) := h.2.2.2.2.2.2.2.2.2.2.2.2.2.2.2.2.2.2.2.2.2.2.2.2.2.2.1
theorem ML.q8 {w : WG} (h : ML w) : gP w 0 12 = some (gA w 8) := h.2.2.2.2.2.2.2.2.2.2.2.2.2.2.2.2.2.2.2.2.2.2.2.2.2.2.2.1
theorem ML.q9 {w : WG} (h : ML w) : gP w 0 13 = some (gA w 9) := h.2.2.2.2.2.2.2.2.2.2.2.2.2.2.2.2.2.2.2.2.2.2.2.2.2.2.2.2.1
theorem ML.q10 {w : WG} (h : ML w) : gP w 0 14 = some (gA w 10) := h.2.2.2.2.2.2.2.2.2.2.2.2.2.2.2.2.2.2.2.2.2.2.2.2.2.2.2.2.2.1
theorem ML.q11 {w : WG} (h : ML w) : gP w 0 15 = some (gA w 11) := h.2.2.2.2.2.2.2.2.2.2.2.2.2.2.2.2.2.2.2.2.2.2.2.2.2.2.2.2.2.2.1
theorem ML.q12 {w : WG} (h : ML w) : gP w 0 16 = some (gA w 12) := h.2.2.2.2.2.2.2.2.2.2.2.2.2.2.2.2.2.2.2.2.2.2.2.2.2.2.2.2.2.2.2.1
theorem ML.q13 {w : WG} (h : ML w) : gP w 0 17 = some (gA w 13) := h.2.2.2.2.2.2.2.2.2.2.2.2.2.2.2.2.2.2.2.2.2.2.2.2.2.2.2.2.2.2.2.2.1
theorem ML.q14 {w : WG} (h : ML w) : gP w 0 23 = some (gA w 14) := h.2.2.2.2.2.2.2.2.2.2.2.2.2.2.2.2.2.2.2.2.2.2.2.2.2.2.2.2.2.2.2.2.2.1
theorem ML.q15 {w : WG} (h : ML w) : gP w 0 24 = some (gA w 15) := h.2.2.2.2.2.2.2.2.2.2.2.2.2.2.2.2.2.2.2.2.2.2.2.2.2.2.2.2.2.2.2.2.2.2.1
theorem ML.q16 {w : WG} (h : ML w) : gP w 0 26 = some (gA w 16) := h.2.2.2.2.2.2.2.2.2.2.2.2.2.2.2.2.2.2.2.2.2.2.2.2.2.2.2.2.2.2.2.2.2.2.2.1
theorem ML.q17 {w : WG} (h : ML w) : gP w 0 28 = some (gA w 17) := h.2.2.2.2.2.2.2.2.2.2.2.2.2.2.2.2.2.2.2.2.2.2.2.2.2.2.2.2.2.2.2.2.2.2.2.2.1
theorem ML.q18 {w : WG} (h : ML w) : gP w 0 31 = some (gA w 18) := h.2.2.2.2.2.2.2.2.2.2.2.2.2.2.2.2.2.2.2.2.2.2.2.2.2.2.2.2.2.2.2.2.2.2.2.2.2.1
theorem ML.q19 {w : WG} (h : ML w) : gP w 0 32 = some (gA w 19) := h.2.2.2.2.2.2.2.2.2.2.2.2.2.2.2.2.2.2.2.2.2.2.2.2.2.2.2.2.2.2.2.2.2.2.2.2.2.2
theorem tab_out {x : Int32} {lo hi : Int} (h : ∀ j : Int, lo ≤ j → j ≤ hi → x ≠ Int32.ofInt j) : x.toInt < lo ∨ hi < x.toInt := by
  by_cases h1 : x.toInt < lo
  · exact Or.inl h1
  · by_cases h2 : hi < x.toInt
    · exact Or.inr h2
    · exact absurd (Int32.ofInt_toInt x).symm (h x.toInt (by omega) (by omega))
theorem G.eqI {X : CT} {w : WG} {M : MD} {I I' : SI} {L : SL} {pc : Nat} {f : LV} {st : List Value} (h : I = I') (k : G X w M I' L pc f st) : G X w M I L pc f st := h ▸ k
/-! PURE: bits, what the kinds do -/
def b01 (p : Prop) [Decidable p] : Int32 := if p then 1 else 0
def btI (x : Int32) (i : Nat) : Bool := x.toBitVec.getLsbD i
theorem btI_or (x y : Int32) (i : Nat) : btI (x ||| y) i = (btI x i || btI y i) := by unfold btI; rw [Int32.toBitVec_or, BitVec.getLsbD_or]
theorem btI_and (x y : Int32) (i : Nat) : btI (x &&& y) i = (btI x i && btI y i) := by unfold btI; rw [Int32.toBitVec_and, BitVec.getLsbD_and]
theorem btI_0 (i : Nat) : btI 0 i = false := BitVec.getLsbD_zero
theorem btI_ext {x y : Int32} (h : ∀ i, i < 32 → btI x i = btI y i) : x = y := Int32.toBitVec_inj.mp (BitVec.eq_of_getLsbD_eq (fun i hi => h i hi))
theorem btI_one : ∀ a, a < 31 → ∀ i, i < 32 → btI ((1 : Int32) <<< (nI a &&& 31)) i = decide (a = i) := by decide +kernel
/-- what a kind does to one that is, or isn't, its favourite, in such boots -/
def wbF (k f b : Int32) : Int32 := if k = 2 ∨ k = 4 then (if f = 0 then 1 else 0) else if k = 3 then (if b < 8 then 1 else 0) else if k = 5 then (if b < 5 then 1 else 0) else (if f = 0 ∧ b < 8 then 1 else 0)
/-- how many bites -/
def nbF (k : Int32) : Int32 := if k = 3 ∨ k = 5 then 3 else if k = 4 then 1 else 2
/-- how wide -/
def wdF (k x : Int32) : Int32 := if k = 1 then 0 else if k = 2 ∨ k = 4 then 2 * x else if k = 5 then x + 1 else x
/-- the bit k of a set -/
def inF (s k : Int32) : Int32 := if (s >>> (k &&& 31)) &&& 1 = 1 then 1 else 0
/-! what a village does, by its rows: K kinds, W weights, F favourites, B boots -/
theorem loop_up {P : Nat → Prop} {n : Nat} (h : ∀ k, k ≤ n → (k < n → P (k + 1)) → P k) : ∀ k, k ≤ n → P k := by
  intro k hk
  have key : ∀ m k, k + m = n → P k := by
    intro m
    induction m with
    | zero => intro k e; exact h k (by omega) (fun q => absurd q (by omega))
    | succ m ih => intro k e; exact h k (by omega) (fun _ => ih (k + 1) (by omega))
  exact key (n - k) k (by omega)
theorem vI {a b : Int32} (h : a = b) : some (Value.int a) = some (Value.int b) := by rw [h]
theorem vL {a b : Int64} (h : a = b) : some (Value.long a) = some (Value.long b) := by rw [h]
theorem rS_rS {α : Type} (I : Nat → α) (o : Nat) (f g : α) : rS (rS I o f) o g = rS I o g := by
  funext q; by_cases h : q = o <;> simp [rS, h]
theorem rS_self {α : Type} (I : Nat → α) (o : Nat) : rS I o (I o) = I := by
  funext q; by_cases h : q = o <;> simp [rS, h]
theorem nle {a b : Nat} (h : nI a ≤ nI b) (ha : a < 2 ^ 31) (hb : b < 2 ^ 31) : a ≤ b := (nI_leI ha hb).mp h
theorem nlt {a b : Nat} (h : nI a < nI b) (ha : a < 2 ^ 31) (hb : b < 2 ^ 31) : a < b := (nI_ltI ha hb).mp h
theorem nnle {a b : Nat} (h : ¬ nI a ≤ nI b) (ha : a < 2 ^ 31) (hb : b < 2 ^ 31) : b < a := by
  have := mt (nI_leI ha hb).mpr h; omega
theorem nnlt {a b : Nat} (h : ¬ nI a < nI b) (ha : a < 2 ^ 31) (hb : b < 2 ^ 31) : b ≤ a := by
  have := mt (nI_ltI ha hb).mpr h; omega
def stF (n r : Nat) : Nat := if n = 0 then 0 else r % n
def hgF (h : Nat → Int32) (s : Int32) : Nat → Int32
  | 0 => 0
  | k + 1 => if inF s (nI k) = 0 then hgF h s k else hgF h s k + h k
def bbS (K F : Int32) (B : Nat → Int32) (n a : Nat) : Nat → Int32 × Int32
  | 0 => (0, nbF K)
  | i + 1 => if 0 < (bbS K F B n a i).2 ∧ wbF K (b01 (F = nI ((a + i) % n))) (B ((a + i) % n)) ≠ 0 then ((bbS K F B n a i).1 ||| ((1 : Int32) <<< (nI ((a + i) % n) &&& 31)), (bbS K F B n a i).2 + (-1)) else bbS K F B n a i
def bbR (K F B : Nat → Int32) (n k a : Nat) : Int32 := (bbS (K k) (F k) B n a n).1
theorem bbS_yes {K F : Int32} {B : Nat → Int32} {n a i : Nat} (h1 : ¬ (bbS K F B n a i).2 ≤ 0) (h2 : wbF K (b01 (F = nI ((a + i) % n))) (B ((a + i) % n)) ≠ 0) : bbS K F B n a (i + 1) = ((bbS K F B n a i).1 ||| ((1 : Int32) <<< (nI ((a + i) % n) &&& 31)), (bbS K F B n a i).2 + (-1)) := by
  rw [bbS, if_pos ⟨Int32.not_le.mp h1, h2⟩]
theorem bbS_no {K F : Int32} {B : Nat → Int32} {n a i : Nat} (h2 : wbF K (b01 (F = nI ((a + i) % n))) (B ((a + i) % n)) = 0) : bbS K F B n a (i + 1) = bbS K F B n a i := by
  rw [bbS, if_neg (fun q => q.2 h2)]
theorem bbS_done {K F : Int32} {B : Nat → Int32} {n a i : Nat} (h : ¬ 0 < (bbS K F B n a i).2) : ∀ m, bbS K F B n a (i + m) = bbS K F B n a i := by
  intro m
  induction m with
  | zero => rfl
  | succ m ih =>
    show bbS K F B n a ((i + m) + 1) = _
    rw [bbS, ih, if_neg (fun q => h q.1)]
def wtR (K W F B : Nat → Int32) (n a : Nat) (c s : Int32) : Nat → Int32
  | 0 => 0
  | k + 1 => wtR K W F B n a c s k + (if inF s (nI k) = 0 ∧ inF (bbR K F B n k a) c ≠ 0 then wdF (K k) (W k) else 0)
def bsR (K F B : Nat → Int32) (n a : Nat) (c s : Int32) : Nat → Int32
  | 0 => 0
  | k + 1 => if inF s (nI k) = 0 ∧ inF (bbR K F B n k a) c ≠ 0 then bsR K F B n a c s k ||| ((1 : Int32) <<< (nI k &&& 31)) else bsR K F B n a c s k
/-- a row of holes behind k dogs of a round -/
def rdR (K W F B : Nat → Int32) (n a : Nat) (s : Int32) (h : Nat → Int32) (k : Nat) : Nat → Int32 := fun c => if c < n then h c + wtR K W F B n a (nI c) s k else h c
theorem rdR_0 (K W F B : Nat → Int32) (n a : Nat) (s : Int32) (h : Nat → Int32) : rdR K W F B n a s h 0 = h := by
  funext c; simp [rdR, wtR]
theorem inF_01 (s k : Int32) : inF s k = 0 ∨ inF s k = 1 := by
  unfold inF; split
  · exact Or.inr rfl
  · exact Or.inl rfl
/-! a village's rows as one value -/
abbrev VS : Type := Nat → Nat → Int32
def vx (I : SI) (v : Nat) : VS := fun j => I (v + j)
def wV (I : SI) (v : Nat) (V : VS) : SI := fun q => if v ≤ q ∧ q < v + 10 then V (q - v) else I q
theorem wV_at (I : SI) (v : Nat) (V : VS) {j : Nat} (h : j < 10) : wV I v V (v + j) = V j := by
  simp [wV, h]
theorem wV_0 (I : SI) (v : Nat) (V : VS) : wV I v V v = V 0 := by
  simp [wV]
theorem wV_out (I : SI) (v : Nat) (V : VS) {q : Nat} (h : q < v ∨ v + 10 ≤ q) : wV I v V q = I q := by
  unfold wV; rw [if_neg]; omega
theorem wV_id (I : SI) (v : Nat) : wV I v (vx I v) = I := by
  funext q; unfold wV vx; split
  · rw [show v + (q - v) = q by omega]
  · rfl
theorem wV_rS (I : SI) (v : Nat) (V : VS) {j : Nat} (f : Nat → Int32) (h : j < 10) : rS (wV I v V) (v + j) f = wV I v (rS V j f) := by
  funext q
  by_cases hq : q = v + j
  · subst hq
    rw [rS_eq, wV_at _ _ _ h, rS_eq]
  · rw [rS_ne _ _ _ hq]
    unfold wV; split
    · rw [rS_ne]; omega
    · rfl
theorem wV_rS0 (I : SI) (v : Nat) (V : VS) (f : Nat → Int32) : rS (wV I v V) v f = wV I v (rS V 0 f) := wV_rS I v V f (j := 0) (by decide)
theorem wV_wV (I : SI) (v : Nat) (V V' : VS) : wV (wV I v V) v V' = wV I v V' := by
  funext q; unfold wV; split <;> rfl
theorem vx_wV (I : SI) (v : Nat) (V : VS) {j : Nat} (h : j < 10) : vx (wV I v V) v j = V j := wV_at I v V h
/-- the contract of a method that changes one village -/
def Vd (I : SI) (v : Nat) (V : VS) (L : SL) (r : Option Value) : QT := fun r' I' L' => r' = r ∧ I' = wV I v V ∧ L' = L
def putV (V : VS) (c k : Nat) : VS := rS (rS V 0 (upd (V 0) 2 (V 0 2 ||| ((1 : Int32) <<< (nI k &&& 31))))) 2 (upd (V 2) c (V 2 c - V 6 k))
def emV (V : VS) : VS := rS V 0 (upd (upd (upd (upd (upd (upd (V 0) 0 0) 1 0) 2 0) 3 0) 4 0) 5 0)
def manV (V : VS) (n : Nat) (b h : Int32) : VS := rS (rS (rS (rS V 1 (upd (V 1) n b)) 2 (upd (V 2) n h)) 3 (upd (V 3) n 0)) 0 (upd (upd (V 0) 5 0) 0 (nI n + 1))
def dogV (V : VS) (d : Nat) (k x h f : Int32) : VS := rS (rS (rS (rS (rS V 4 (upd (V 4) d k)) 5 (upd (V 5) d x)) 6 (upd (V 6) d h)) 7 (upd (V 7) d f)) 0 (upd (upd (V 0) 5 0) 1 (nI d + 1))
def noteV (V : VS) (q : Nat) (k f b t : Int32) : VS := rS (rS V 8 (upd (upd (upd (upd (V 8) (q * 4) k) (q * 4 + 1) f) (q * 4 + 2) b) (q * 4 + 3) t)) 0 (upd (V 0) 4 (nI q + 1))
/-- one past more, at place p -/
def kpR (V : VS) (r : Nat → Int32) (p : Nat) : Nat → Int32 := upd (upd (va_cpy (V 3) (va_cpy (V 2) r 0 (p * 10) 4) 0 (p * 10 + 4) 4) (p * 10 + 8) (V 0 2)) (p * 10 + 9) (V 0 3)
def keepV (V : VS) (p : Nat) : VS := if p < 8 then rS (rS V 9 (kpR V (V 9) p)) 0 (upd (V 0) 5 (nI p + 1)) else rS (rS V 9 (kpR V (va_cpy (V 9) (V 9) 10 0 70) 7)) 0 (upd (upd (V 0) 5 7) 5 (nI 7 + 1))
/-- back by one past; p is left -/
def backV (V : VS) (p : Nat) : VS := rS (rS (rS V 2 (va_cpy (V 9) (V 2) (p * 10) 0 4)) 3 (va_cpy (V 9) (V 3) (p * 10 + 4) 0 4)) 0 (upd (upd (upd (V 0) 5 (nI p)) 2 (V 9 (p * 10 + 8))) 3 (V 9 (p * 10 + 9)))
def takeR (S V : VS) : VS := fun j => match j with
  | 0 => upd (upd (upd (upd (upd (upd (V 0) 0 (S 0 0)) 1 (S 0 1)) 2 (S 0 2)) 3 (S 0 3)) 4 (S 0 4)) 5 (S 0 5)
  | 1 => va_cpy (S 1) (V 1) 0 0 4
  | 2 => va_cpy (S 2) (V 2) 0 0 4
  | 3 => va_cpy (S 3) (V 3) 0 0 4
  | 4 => va_cpy (S 4) (V 4) 0 0 7
  | 5 => va_cpy (S 5) (V 5) 0 0 7
  | 6 => va_cpy (S 6) (V 6) 0 0 7
  | 7 => va_cpy (S 7) (V 7) 0 0 7
  | 8 => va_cpy (S 8) (V 8) 0 0 24
  | 9 => va_cpy (S 9) (V 9) 0 0 80
  | _ => V j
theorem npos {p : Nat} (h : p + 1 < 2 ^ 31) : (0 : Int32) < nI (p + 1) := by
  have := (nI_ltI (a := 0) (b := p + 1) (by decide) h).mpr (by omega)
  rwa [nI_0] at this
def bgS (f b : Int32) : Nat → Int32
  | 0 => 0
  | j + 1 => if wbF (nI j) f b = 0 then bgS f b j else bgS f b j ||| ((1 : Int32) <<< (nI j &&& 31))
def bgF (f b : Int32) : Int32 := bgS f b 6
def knR (N : Nat → Int32) (k : Int32) : Nat → Int32
  | 0 => 63
  | i + 1 => if N (i * 4) = k then knR N k i &&& (if N (i * 4 + 3) = 1 then bgF (b01 (N (i * 4 + 1) = 1)) (N (i * 4 + 2)) else bgF (b01 (N (i * 4 + 1) = 1)) (N (i * 4 + 2)) ^^^ (-1)) else knR N k i
def mx (h : Int64) (x : Int32) : Int64 := 31 * h + x.toInt64
def dgM (B H O : Nat → Int32) (h : Int64) : Nat → Int64
  | 0 => h
  | c + 1 => mx (mx (mx (dgM B H O h c) (B c)) (H c)) (O c)
def dgD (K W U F : Nat → Int32) (s : Int32) (h : Int64) : Nat → Int64
  | 0 => h
  | k + 1 => mx (mx (mx (mx (mx (dgD K W U F s h k) (K k)) (W k)) (U k)) (F k)) (inF s (nI k))
def dgN (N : Nat → Int32) (h : Int64) : Nat → Int64
  | 0 => h
  | i + 1 => mx (dgN N h i) (N i)
theorem takeR_eq (S V : VS) : takeR S V = rS (rS (rS (rS (rS (rS (rS (rS (rS (rS V 0 (upd (upd (upd (upd (upd (upd (V 0) 0 (S 0 0)) 1 (S 0 1)) 2 (S 0 2)) 3 (S 0 3)) 4 (S 0 4)) 5 (S 0 5))) 1 (va_cpy (S 1) (V 1) 0 0 4)) 2 (va_cpy (S 2) (V 2) 0 0 4)) 3 (va_cpy (S 3) (V 3) 0 0 4)) 4 (va_cpy (S 4) (V 4) 0 0 7)) 5 (va_cpy (S 5) (V 5) 0 0 7)) 6 (va_cpy (S 6) (V 6) 0 0 7)) 7 (va_cpy (S 7) (V 7) 0 0 7)) 8 (va_cpy (S 8) (V 8) 0 0 24)) 9 (va_cpy (S 9) (V 9) 0 0 80) := by
  funext q
  rcases q with _ | _ | _ | _ | _ | _ | _ | _ | _ | _ | q <;> simp [takeR, rS]
def rdC (K W F B : Nat → Int32) (n a : Nat) (s : Int32) (h : Nat → Int32) (k c : Nat) : Nat → Int32 := fun x => if x < c then rdR K W F B n a s h (k + 1) x else rdR K W F B n a s h k x
theorem rdC_0 {K W F B : Nat → Int32} {n a : Nat} {s : Int32} {h : Nat → Int32} {k : Nat} : rdC K W F B n a s h k 0 = rdR K W F B n a s h k := by
  funext x; simp [rdC]
theorem rdC_n {K W F B : Nat → Int32} {n a : Nat} {s : Int32} {h : Nat → Int32} {k : Nat} : rdC K W F B n a s h k n = rdR K W F B n a s h (k + 1) := by
  funext x; unfold rdC; split
  · rfl
  · rename_i hx; simp [rdR, hx]
theorem rdR_zz {K W F B : Nat → Int32} {n a : Nat} {s : Int32} {h : Nat → Int32} {k : Nat} (hs : ¬ inF s (nI k) = 0) : rdR K W F B n a s h (k + 1) = rdR K W F B n a s h k := by
  funext x; simp [rdR, wtR, hs]
theorem rdC_no {K W F B : Nat → Int32} {n a : Nat} {s : Int32} {h : Nat → Int32} {k c : Nat} (hb : inF (bbR K F B n k a) (nI c) = 0) : rdC K W F B n a s h k (c + 1) = rdC K W F B n a s h k c := by
  funext x; unfold rdC
  by_cases hx : x = c
  · subst hx; simp [rdR, wtR, hb]
  · by_cases h1 : x < c
    · rw [if_pos h1, if_pos (by omega)]
    · rw [if_neg h1, if_neg (by omega)]
theorem rdC_yes {K W F B : Nat → Int32} {n a : Nat} {s : Int32} {h : Nat → Int32} {k c : Nat} (hc : c < n) (hs : inF s (nI k) = 0) (hb : ¬ inF (bbR K F B n k a) (nI c) = 0) : upd (rdC K W F B n a s h k c) c (rdC K W F B n a s h k c c + wdF (K k) (W k)) = rdC K W F B n a s h k (c + 1) := by
  funext x
  by_cases hx : x = c
  · subst hx; rw [pk_us]; unfold rdC; rw [if_neg (by omega), if_pos (by omega)]; simp [rdR, wtR, hb, hs, hc, Int32.add_assoc]
  · rw [pk_un hx]; unfold rdC
    by_cases h1 : x < c
    · rw [if_pos h1, if_pos (by omega)]
    · rw [if_neg h1, if_neg (by omega)]
theorem b01_0 {P : Prop} [Decidable P] (h : b01 P = 0) : ¬ P := by
  intro p; rw [b01, if_pos p] at h; exact absurd h (by decide)
theorem b01_n {P : Prop} [Decidable P] (h : ¬ b01 P = 0) : P := by
  by_cases p : P
  · exact p
  · exact absurd (by rw [b01, if_neg p]) h
def pmF (h : Nat → Int32) : Nat → Int32
  | 0 => -1
  | c + 1 => if 1 ≤ h c ∧ (pmF h c = -1 ∨ h c < h (pmF h c).toNatClampNeg) then nI c else pmF h c
def lvF (h : Nat → Int32) : Nat → Int32
  | 0 => -1
  | c + 1 => if 1 ≤ h c ∧ (lvF h c = -1 ∨ h (lvF h c).toNatClampNeg < h c) then nI c else lvF h c
theorem pmF_cases (h : Nat → Int32) : ∀ c, pmF h c = -1 ∨ ∃ j, j < c ∧ pmF h c = nI j := by
  intro c
  induction c with
  | zero => exact Or.inl rfl
  | succ c ih =>
    rw [pmF]
    by_cases q : 1 ≤ h c ∧ (pmF h c = -1 ∨ h c < h (pmF h c).toNatClampNeg)
    · rw [if_pos q]; exact Or.inr ⟨c, by omega, rfl⟩
    · rw [if_neg q]
      rcases ih with ih | ⟨j, h1, h2⟩
      · exact Or.inl ih
      · exact Or.inr ⟨j, by omega, h2⟩
theorem lvF_cases (h : Nat → Int32) : ∀ c, lvF h c = -1 ∨ ∃ j, j < c ∧ lvF h c = nI j := by
  intro c
  induction c with
  | zero => exact Or.inl rfl
  | succ c ih =>
    rw [lvF]
    by_cases q : 1 ≤ h c ∧ (lvF h c = -1 ∨ h (lvF h c).toNatClampNeg < h c)
    · rw [if_pos q]; exact Or.inr ⟨c, by omega, rfl⟩
    · rw [if_neg q]
      rcases ih with ih | ⟨j, h1, h2⟩
      · exact Or.inl ih
      · exact Or.inr ⟨j, by omega, h2⟩
theorem pmF_congr {f g : Nat → Int32} : ∀ n, n < 2 ^ 31 → (∀ c, c < n → f c = g c) → pmF f n = pmF g n := by
  intro n
  induction n with
  | zero => intro _ _; rfl
  | succ n ih =>
    intro hn h
    have e := ih (by omega) (fun c hc => h c (by omega))
    rw [pmF, pmF, e, h n (by omega)]
    rcases pmF_cases g n with q | ⟨j, h1, h2⟩
    · simp [q]
    · rw [h2, nI_clamp (by omega), h j (by omega)]
theorem lvF_congr {f g : Nat → Int32} : ∀ n, n < 2 ^ 31 → (∀ c, c < n → f c = g c) → lvF f n = lvF g n := by
  intro n
  induction n with
  | zero => intro _ _; rfl
  | succ n ih =>
    intro hn h
    have e := ih (by omega) (fun c hc => h c (by omega))
    rw [lvF, lvF, e, h n (by omega)]
    rcases lvF_cases g n with q | ⟨j, h1, h2⟩
    · simp [q]
    · rw [h2, nI_clamp (by omega), h j (by omega)]
def rndF (V : VS) (n d r : Nat) (s : Int32) (h : Nat → Int32) : Nat → Int32 := rdR (V 4) (V 5) (V 7) (V 1) n (stF n r) s h d
def ahF (V : VS) (n d r : Nat) : Nat → (Nat → Int32)
  | 0 => V 3
  | i + 1 => rndF V n d (r + i) (if i = 0 then V 0 2 else 0) (ahF V n d r i)
theorem rndF_congr {V : VS} {n d r : Nat} {s : Int32} {f g : Nat → Int32} {m : Nat} (h : ∀ c, c < m → f c = g c) : ∀ c, c < m → rndF V n d r s f c = rndF V n d r s g c := by
  intro c hc; simp [rndF, rdR, h c hc]
def rfX (I : SI) (k : Nat) : SI := rS I 0 (upd (I 0) k (I 0 k + 1))
/-- the same, but for what is only for the answers -/
def SmX (J I' : SI) : Prop := ∀ o, (o < 24 ∨ 26 < o) → I' o = J o
def QX (sp : Value × SI) (L : SL) : QT := fun r I' L' => r = some sp.1 ∧ L' = L ∧ SmX sp.2 I'
theorem SmX.rf {I : SI} : SmX I I := fun _ _ => rfl
theorem SmX.set {J I' : SI} (h : SmX J I') {o : Nat} (f : Nat → Int32) (ho : 24 ≤ o ∧ o ≤ 26) : SmX J (rS I' o f) := fun q hq => by rw [rS_ne _ _ _ (by omega)]; exact h q hq
def bcF (x : Int32) : Int32 :=
  let a := x - ((x.toUInt32 >>> ((1 : Int32).toUInt32 &&& Int32.toUInt32 31)).toInt32 &&& 1431655765)
  let b := (a &&& 858993459) + ((a.toUInt32 >>> ((2 : Int32).toUInt32 &&& Int32.toUInt32 31)).toInt32 &&& 858993459)
  let c := (b + (b.toUInt32 >>> ((4 : Int32).toUInt32 &&& Int32.toUInt32 31)).toInt32) &&& 252645135
  let d := c + (c.toUInt32 >>> ((8 : Int32).toUInt32 &&& Int32.toUInt32 31)).toInt32
  let e := d + (d.toUInt32 >>> ((16 : Int32).toUInt32 &&& Int32.toUInt32 31)).toInt32
  e &&& 63
def drF (k : Int32) : Int32 := if k = 7 then 0 else (1 : Int32) <<< (k &&& 31)
def prF (k : Int32) : Int32 := if k = 7 then 0 else 1
theorem keepV_ne {V : VS} {p j : Nat} (h9 : j ≠ 9) (h0 : j ≠ 0) : keepV V p j = V j := by
  unfold keepV; split <;> rw [rS_ne _ _ _ h0, rS_ne _ _ _ h9]
theorem keepV_0 {V : VS} {p k : Nat} (hk : k ≠ 5) : keepV V p 0 k = V 0 k := by
  unfold keepV; split <;> rw [rS_eq]
  · rw [pk_un hk]
  · rw [pk_un hk, pk_un hk]
/-- behind g rounds -/
def rdV (V : VS) (n d r g : Nat) : VS := rS (rS V 3 (ahF V n d r g)) 0 (if g = 0 then V 0 else upd (upd (V 0) 2 0) 3 (nI (r + g)))
theorem rdV_00 {V : VS} {n d r : Nat} : rdV V n d r 0 = V := by
  funext q; unfold rdV ahF; by_cases h0 : q = 0
  · subst h0; rw [rS_eq, if_pos rfl]
  · rw [rS_ne _ _ _ h0]
    by_cases h3 : q = 3
    · subst h3; rw [rS_eq]
    · rw [rS_ne _ _ _ h3]
theorem rdV_ne {V : VS} {n d r g j : Nat} (h0 : j ≠ 0) (h3 : j ≠ 3) : rdV V n d r g j = V j := by
  unfold rdV; rw [rS_ne _ _ _ h0, rS_ne _ _ _ h3]
theorem rdV_h {V : VS} {n d r g : Nat} : rdV V n d r g 3 = ahF V n d r g := by
  unfold rdV; rw [rS_ne _ _ _ (by decide), rS_eq]
theorem rdV_k {V : VS} {n d r g k : Nat} (h2 : k ≠ 2) (h3 : k ≠ 3) : rdV V n d r g 0 k = V 0 k := by
  unfold rdV; rw [rS_eq]; split
  · rfl
  · rw [pk_un h3, pk_un h2]
theorem rdV_2 {V : VS} {n d r g : Nat} : rdV V n d r g 0 2 = if g = 0 then V 0 2 else 0 := by
  unfold rdV; rw [rS_eq]; split
  · rfl
  · rw [pk_un (by decide), pk_us]
theorem rdV_3 {V : VS} {n d r g : Nat} (h : V 0 3 = nI r) : rdV V n d r g 0 3 = nI (r + g) := by
  unfold rdV; rw [rS_eq]; split
  · rename_i e; rw [h, e]; rfl
  · rw [pk_us]
theorem rdV_step {V : VS} {n d r g : Nat} : rS (rS (rdV V n d r g) 3 (ahF V n d r (g + 1))) 0 (upd (upd (rdV V n d r g 0) 2 0) 3 (nI (r + (g + 1)))) = rdV V n d r (g + 1) := by
  funext q; by_cases h0 : q = 0
  · subst h0; rw [rS_eq]; unfold rdV; rw [rS_eq, rS_eq, if_neg (Nat.succ_ne_zero g)]
    funext k
    by_cases h3 : k = 3
    · subst h3; rw [pk_us, pk_us]
    · rw [pk_un h3, pk_un h3]
      by_cases h2 : k = 2
      · subst h2; rw [pk_us, pk_us]
      · rw [pk_un h2, pk_un h2]; split
        · rfl
        · rw [pk_un h3, pk_un h2]
  · rw [rS_ne _ _ _ h0]; by_cases h3 : q = 3
    · subst h3; rw [rS_eq, rdV_h]
    · rw [rS_ne _ _ _ h3, rdV_ne h0 h3, rdV_ne h0 h3]
