/-! The shapes' rows one by one. -/
theorem sT_t0 {S : xi_S} (h : ShT S) : S.1 0 = 10 := h.1
theorem sT_t1 {S : xi_S} (h : ShT S) : S.2.2 0 0 = some 1 := h.2.1
theorem sT_t2 {S : xi_S} (h : ShT S) : S.2.2 0 1 = some 2 := h.2.2.1
theorem sT_t3 {S : xi_S} (h : ShT S) : S.2.2 0 2 = some 50 := h.2.2.2.1
theorem sT_t4 {S : xi_S} (h : ShT S) : S.2.2 0 3 = some 60 := h.2.2.2.2.1
theorem sT_t5 {S : xi_S} (h : ShT S) : S.2.2 0 4 = some 3 := h.2.2.2.2.2.1
theorem sT_t6 {S : xi_S} (h : ShT S) : S.2.2 0 5 = some 5 := h.2.2.2.2.2.2.1
theorem sT_t7 {S : xi_S} (h : ShT S) : S.2.2 0 6 = some 9 := h.2.2.2.2.2.2.2.1
theorem sT_t8 {S : xi_S} (h : ShT S) : S.2.2 0 7 = some 11 := h.2.2.2.2.2.2.2.2.1
theorem sT_t9 {S : xi_S} (h : ShT S) : S.2.2 0 8 = some 13 := h.2.2.2.2.2.2.2.2.2.1
theorem sT_t10 {S : xi_S} (h : ShT S) : S.2.2 0 9 = some 4 := h.2.2.2.2.2.2.2.2.2.2.1
theorem sT_a1 {S : xi_S} (h : ShT S) : S.1 1 = 1 := h.2.2.2.2.2.2.2.2.2.2.2.1
theorem sT_a2 {S : xi_S} (h : ShT S) : S.1 2 = 1 := h.2.2.2.2.2.2.2.2.2.2.2.2.1
theorem sT_a3 {S : xi_S} (h : ShT S) : S.1 3 = 2 := h.2.2.2.2.2.2.2.2.2.2.2.2.2.1
theorem sT_a4 {S : xi_S} (h : ShT S) : S.1 4 = 0 := h.2.2.2.2.2.2.2.2.2.2.2.2.2.2.1
theorem sT_b1 {S : xi_S} (h : ShT S) : S.2.1 1 = 6 := h.2.2.2.2.2.2.2.2.2.2.2.2.2.2.2.1
theorem sT_b2 {S : xi_S} (h : ShT S) : S.2.1 2 = 4 := h.2.2.2.2.2.2.2.2.2.2.2.2.2.2.2.2.1
theorem sT_b3 {S : xi_S} (h : ShT S) : S.2.1 3 = 3 := h.2.2.2.2.2.2.2.2.2.2.2.2.2.2.2.2.2.1
theorem sT_b4 {S : xi_S} (h : ShT S) : S.2.1 4 = 6 := h.2.2.2.2.2.2.2.2.2.2.2.2.2.2.2.2.2.2.1
theorem sT_d1 {S : xi_S} (h : ShT S) : (∀ r, r < 6 → S.2.2 1 r = some (30 + r)) := h.2.2.2.2.2.2.2.2.2.2.2.2.2.2.2.2.2.2.2.1
theorem sT_d2 {S : xi_S} (h : ShT S) : (∀ t, t < 4 → S.2.2 2 t = some (30 + (6 + t))) := h.2.2.2.2.2.2.2.2.2.2.2.2.2.2.2.2.2.2.2.2.1
theorem sT_d3 {S : xi_S} (h : ShT S) : (∀ k, k < 3 → S.2.2 3 k = some (70 + 10 * k)) := h.2.2.2.2.2.2.2.2.2.2.2.2.2.2.2.2.2.2.2.2.2.1
theorem sT_e1 {S : xi_S} (h : ShT S) : (∀ s, s < 10 → S.1 (30 + s) = 9) := h.2.2.2.2.2.2.2.2.2.2.2.2.2.2.2.2.2.2.2.2.2.2.1
theorem sT_e2 {S : xi_S} (h : ShT S) : (∀ s, s < 10 → S.2.2 (30 + s) 2 = some (40 + s)) := h.2.2.2.2.2.2.2.2.2.2.2.2.2.2.2.2.2.2.2.2.2.2.2.1
theorem sT_e3 {S : xi_S} (h : ShT S) : (∀ s, s < 10 → S.1 (40 + s) = 0) := h.2.2.2.2.2.2.2.2.2.2.2.2.2.2.2.2.2.2.2.2.2.2.2.2.1
theorem sT_e4 {S : xi_S} (h : ShT S) : (∀ s, s < 6 → S.2.1 (40 + s) = 40) := h.2.2.2.2.2.2.2.2.2.2.2.2.2.2.2.2.2.2.2.2.2.2.2.2.2.1
theorem sT_e5 {S : xi_S} (h : ShT S) : (∀ s, s < 4 → S.2.1 (40 + (6 + s)) = 60) := h.2.2.2.2.2.2.2.2.2.2.2.2.2.2.2.2.2.2.2.2.2.2.2.2.2.2
theorem sB_o1 {S : xi_S} (h : ShB S) : S.1 5 = 4 := h.1
theorem sB_o2 {S : xi_S} (h : ShB S) : S.2.2 5 2 = some 6 := h.2.1
theorem sB_o3 {S : xi_S} (h : ShB S) : S.2.2 5 3 = some 7 := h.2.2.1
theorem sB_o4 {S : xi_S} (h : ShB S) : S.2.2 5 4 = some 8 := h.2.2.2.1
theorem sB_o5 {S : xi_S} (h : ShB S) : S.1 6 = 0 := h.2.2.2.2.1
theorem sB_o6 {S : xi_S} (h : ShB S) : S.1 7 = 0 := h.2.2.2.2.2.1
theorem sB_o7 {S : xi_S} (h : ShB S) : S.1 8 = 0 := h.2.2.2.2.2.2.1
theorem sB_o8 {S : xi_S} (h : ShB S) : S.2.1 6 = 6 := h.2.2.2.2.2.2.2.1
theorem sB_o9 {S : xi_S} (h : ShB S) : S.2.1 7 = 6 := h.2.2.2.2.2.2.2.2.1
theorem sB_o10 {S : xi_S} (h : ShB S) : S.2.1 8 = 2 := h.2.2.2.2.2.2.2.2.2.1
theorem sB_p1 {S : xi_S} (h : ShB S) : S.1 9 = 3 := h.2.2.2.2.2.2.2.2.2.2.1
theorem sB_p2 {S : xi_S} (h : ShB S) : S.2.2 9 0 = some 10 := h.2.2.2.2.2.2.2.2.2.2.2.1
theorem sB_p3 {S : xi_S} (h : ShB S) : S.1 10 = 0 := h.2.2.2.2.2.2.2.2.2.2.2.2.1
theorem sB_p4 {S : xi_S} (h : ShB S) : S.2.1 10 = 98 := h.2.2.2.2.2.2.2.2.2.2.2.2.2.1
theorem sB_q1 {S : xi_S} (h : ShB S) : S.1 11 = 5 := h.2.2.2.2.2.2.2.2.2.2.2.2.2.2.1
theorem sB_q2 {S : xi_S} (h : ShB S) : S.2.2 11 0 = some 12 := h.2.2.2.2.2.2.2.2.2.2.2.2.2.2.2.1
theorem sB_q3 {S : xi_S} (h : ShB S) : S.1 12 = 0 := h.2.2.2.2.2.2.2.2.2.2.2.2.2.2.2.2.1
theorem sB_q4 {S : xi_S} (h : ShB S) : S.2.1 12 = 4 := h.2.2.2.2.2.2.2.2.2.2.2.2.2.2.2.2.2.1
theorem sB_g1 {S : xi_S} (h : ShB S) : S.1 13 = 6 := h.2.2.2.2.2.2.2.2.2.2.2.2.2.2.2.2.2.2.1
theorem sB_g2 {S : xi_S} (h : ShB S) : S.2.2 13 2 = some 14 := h.2.2.2.2.2.2.2.2.2.2.2.2.2.2.2.2.2.2.2.1
theorem sB_g3 {S : xi_S} (h : ShB S) : S.1 14 = 0 := h.2.2.2.2.2.2.2.2.2.2.2.2.2.2.2.2.2.2.2.2.1
theorem sB_g4 {S : xi_S} (h : ShB S) : S.2.1 14 = 21 := h.2.2.2.2.2.2.2.2.2.2.2.2.2.2.2.2.2.2.2.2.2
theorem sX_x0 {S : xi_S} (h : ShX S) : S.1 15 = 11 := h.1
theorem sX_xr0 {S : xi_S} (h : ShX S) : S.2.2 15 0 = some 16 := h.2.1
theorem sX_xr1 {S : xi_S} (h : ShX S) : S.2.2 15 1 = some 17 := h.2.2.1
theorem sX_xr2 {S : xi_S} (h : ShX S) : S.2.2 15 2 = some 18 := h.2.2.2.1
theorem sX_xr3 {S : xi_S} (h : ShX S) : S.2.2 15 3 = some 19 := h.2.2.2.2.1
theorem sX_xr4 {S : xi_S} (h : ShX S) : S.2.2 15 4 = some 20 := h.2.2.2.2.2.1
theorem sX_xr5 {S : xi_S} (h : ShX S) : S.2.2 15 5 = some 21 := h.2.2.2.2.2.2.1
theorem sX_xr6 {S : xi_S} (h : ShX S) : S.2.2 15 6 = some 22 := h.2.2.2.2.2.2.2.1
theorem sX_xr7 {S : xi_S} (h : ShX S) : S.2.2 15 7 = some 23 := h.2.2.2.2.2.2.2.2.1
theorem sX_xr8 {S : xi_S} (h : ShX S) : S.2.2 15 8 = some 24 := h.2.2.2.2.2.2.2.2.2.1
theorem sX_xr9 {S : xi_S} (h : ShX S) : S.2.2 15 10 = some 25 := h.2.2.2.2.2.2.2.2.2.2.1
theorem sX_xr10 {S : xi_S} (h : ShX S) : S.2.2 15 11 = some 26 := h.2.2.2.2.2.2.2.2.2.2.2.1
theorem sX_xr11 {S : xi_S} (h : ShX S) : S.2.2 15 12 = some 27 := h.2.2.2.2.2.2.2.2.2.2.2.2.1
theorem sX_xr12 {S : xi_S} (h : ShX S) : S.2.2 15 14 = some 28 := h.2.2.2.2.2.2.2.2.2.2.2.2.2.1
theorem sX_xr13 {S : xi_S} (h : ShX S) : S.2.2 15 20 = some 29 := h.2.2.2.2.2.2.2.2.2.2.2.2.2.2.1
theorem sX_xk0 {S : xi_S} (h : ShX S) : S.1 16 = 0 := h.2.2.2.2.2.2.2.2.2.2.2.2.2.2.2.1
theorem sX_xk1 {S : xi_S} (h : ShX S) : S.1 17 = 0 := h.2.2.2.2.2.2.2.2.2.2.2.2.2.2.2.2.1
theorem sX_xk2 {S : xi_S} (h : ShX S) : S.1 18 = 0 := h.2.2.2.2.2.2.2.2.2.2.2.2.2.2.2.2.2.1
theorem sX_xk3 {S : xi_S} (h : ShX S) : S.1 19 = 0 := h.2.2.2.2.2.2.2.2.2.2.2.2.2.2.2.2.2.2.1
theorem sX_xk4 {S : xi_S} (h : ShX S) : S.1 20 = 0 := h.2.2.2.2.2.2.2.2.2.2.2.2.2.2.2.2.2.2.2.1
theorem sX_xk5 {S : xi_S} (h : ShX S) : S.1 21 = 0 := h.2.2.2.2.2.2.2.2.2.2.2.2.2.2.2.2.2.2.2.2.1
theorem sX_xk6 {S : xi_S} (h : ShX S) : S.1 22 = 0 := h.2.2.2.2.2.2.2.2.2.2.2.2.2.2.2.2.2.2.2.2.2.1
theorem sX_xk7 {S : xi_S} (h : ShX S) : S.1 23 = 0 := h.2.2.2.2.2.2.2.2.2.2.2.2.2.2.2.2.2.2.2.2.2.2.1
theorem sX_xk8 {S : xi_S} (h : ShX S) : S.1 24 = 0 := h.2.2.2.2.2.2.2.2.2.2.2.2.2.2.2.2.2.2.2.2.2.2.2.1
theorem sX_xk9 {S : xi_S} (h : ShX S) : S.1 25 = 0 := h.2.2.2.2.2.2.2.2.2.2.2.2.2.2.2.2.2.2.2.2.2.2.2.2.1
theorem sX_xk10 {S : xi_S} (h : ShX S) : S.1 26 = 0 := h.2.2.2.2.2.2.2.2.2.2.2.2.2.2.2.2.2.2.2.2.2.2.2.2.2.1
theorem sX_xk11 {S : xi_S} (h : ShX S) : S.1 27 = 0 := h.2.2.2.2.2.2.2.2.2.2.2.2.2.2.2.2.2.2.2.2.2.2.2.2.2.2.1
theorem sX_xk12 {S : xi_S} (h : ShX S) : S.1 28 = 0 := h.2.2.2.2.2.2.2.2.2.2.2.2.2.2.2.2.2.2.2.2.2.2.2.2.2.2.2.1
theorem sX_xk13 {S : xi_S} (h : ShX S) : S.1 29 = 0 := h.2.2.2.2.2.2.2.2.2.2.2.2.2.2.2.2.2.2.2.2.2.2.2.2.2.2.2.2.1
theorem sX_xl0 {S : xi_S} (h : ShX S) : S.2.1 16 = 6 := h.2.2.2.2.2.2.2.2.2.2.2.2.2.2.2.2.2.2.2.2.2.2.2.2.2.2.2.2.2.1
theorem sX_xl1 {S : xi_S} (h : ShX S) : S.2.1 17 = 240 := h.2.2.2.2.2.2.2.2.2.2.2.2.2.2.2.2.2.2.2.2.2.2.2.2.2.2.2.2.2.2.1
theorem sX_xl2 {S : xi_S} (h : ShX S) : S.2.1 18 = 4 := h.2.2.2.2.2.2.2.2.2.2.2.2.2.2.2.2.2.2.2.2.2.2.2.2.2.2.2.2.2.2.2.1
theorem sX_xl3 {S : xi_S} (h : ShX S) : S.2.1 19 = 240 := h.2.2.2.2.2.2.2.2.2.2.2.2.2.2.2.2.2.2.2.2.2.2.2.2.2.2.2.2.2.2.2.2.1
theorem sX_xl4 {S : xi_S} (h : ShX S) : S.2.1 20 = 40 := h.2.2.2.2.2.2.2.2.2.2.2.2.2.2.2.2.2.2.2.2.2.2.2.2.2.2.2.2.2.2.2.2.2.1
theorem sX_xl5 {S : xi_S} (h : ShX S) : S.2.1 21 = 34 := h.2.2.2.2.2.2.2.2.2.2.2.2.2.2.2.2.2.2.2.2.2.2.2.2.2.2.2.2.2.2.2.2.2.2.1
theorem sX_xl6 {S : xi_S} (h : ShX S) : S.2.1 22 = 34 := h.2.2.2.2.2.2.2.2.2.2.2.2.2.2.2.2.2.2.2.2.2.2.2.2.2.2.2.2.2.2.2.2.2.2.2.1
theorem sX_xl7 {S : xi_S} (h : ShX S) : S.2.1 23 = 34 := h.2.2.2.2.2.2.2.2.2.2.2.2.2.2.2.2.2.2.2.2.2.2.2.2.2.2.2.2.2.2.2.2.2.2.2.2.1
theorem sX_xl8 {S : xi_S} (h : ShX S) : S.2.1 24 = 1360 := h.2.2.2.2.2.2.2.2.2.2.2.2.2.2.2.2.2.2.2.2.2.2.2.2.2.2.2.2.2.2.2.2.2.2.2.2.2.1
theorem sX_xl9 {S : xi_S} (h : ShX S) : S.2.1 25 = 102 := h.2.2.2.2.2.2.2.2.2.2.2.2.2.2.2.2.2.2.2.2.2.2.2.2.2.2.2.2.2.2.2.2.2.2.2.2.2.2.1
theorem sX_xl10 {S : xi_S} (h : ShX S) : S.2.1 26 = 4080 := h.2.2.2.2.2.2.2.2.2.2.2.2.2.2.2.2.2.2.2.2.2.2.2.2.2.2.2.2.2.2.2.2.2.2.2.2.2.2.2.1
theorem sX_xl11 {S : xi_S} (h : ShX S) : S.2.1 27 = 3 := h.2.2.2.2.2.2.2.2.2.2.2.2.2.2.2.2.2.2.2.2.2.2.2.2.2.2.2.2.2.2.2.2.2.2.2.2.2.2.2.2.1
theorem sX_xl12 {S : xi_S} (h : ShX S) : S.2.1 28 = 6 := h.2.2.2.2.2.2.2.2.2.2.2.2.2.2.2.2.2.2.2.2.2.2.2.2.2.2.2.2.2.2.2.2.2.2.2.2.2.2.2.2.2.1
theorem sX_xl13 {S : xi_S} (h : ShX S) : S.2.1 29 = 6561 := h.2.2.2.2.2.2.2.2.2.2.2.2.2.2.2.2.2.2.2.2.2.2.2.2.2.2.2.2.2.2.2.2.2.2.2.2.2.2.2.2.2.2
theorem sR_s0 {S : xi_S} {c : Nat} (h : ShR S c) : S.1 c = 8 := h.1
theorem sR_s5 {S : xi_S} {c : Nat} (h : ShR S c) : S.2.2 c 5 = some (c + 1) := h.2.1
theorem sR_s6 {S : xi_S} {c : Nat} (h : ShR S c) : S.2.2 c 6 = some (c + 2) := h.2.2.1
theorem sR_s7 {S : xi_S} {c : Nat} (h : ShR S c) : S.2.2 c 7 = some (c + 3) := h.2.2.2.1
theorem sR_s8 {S : xi_S} {c : Nat} (h : ShR S c) : S.2.2 c 8 = some (c + 4) := h.2.2.2.2.1
theorem sR_s9 {S : xi_S} {c : Nat} (h : ShR S c) : S.2.2 c 9 = some (c + 5) := h.2.2.2.2.2.1
theorem sR_s10 {S : xi_S} {c : Nat} (h : ShR S c) : S.2.2 c 10 = some (c + 6) := h.2.2.2.2.2.2.1
theorem sR_s11 {S : xi_S} {c : Nat} (h : ShR S c) : S.2.2 c 11 = some (c + 7) := h.2.2.2.2.2.2.2.1
theorem sR_s12 {S : xi_S} {c : Nat} (h : ShR S c) : S.2.2 c 12 = some (c + 8) := h.2.2.2.2.2.2.2.2.1
theorem sR_s13 {S : xi_S} {c : Nat} (h : ShR S c) : S.2.2 c 13 = some (c + 9) := h.2.2.2.2.2.2.2.2.2.1
theorem sR_k1 {S : xi_S} {c : Nat} (h : ShR S c) : S.1 (c + 1) = 0 := h.2.2.2.2.2.2.2.2.2.2.1
theorem sR_k2 {S : xi_S} {c : Nat} (h : ShR S c) : S.1 (c + 2) = 0 := h.2.2.2.2.2.2.2.2.2.2.2.1
theorem sR_k3 {S : xi_S} {c : Nat} (h : ShR S c) : S.1 (c + 3) = 0 := h.2.2.2.2.2.2.2.2.2.2.2.2.1
theorem sR_k4 {S : xi_S} {c : Nat} (h : ShR S c) : S.1 (c + 4) = 0 := h.2.2.2.2.2.2.2.2.2.2.2.2.2.1
theorem sR_k5 {S : xi_S} {c : Nat} (h : ShR S c) : S.1 (c + 5) = 0 := h.2.2.2.2.2.2.2.2.2.2.2.2.2.2.1
theorem sR_k6 {S : xi_S} {c : Nat} (h : ShR S c) : S.1 (c + 6) = 0 := h.2.2.2.2.2.2.2.2.2.2.2.2.2.2.2.1
theorem sR_k7 {S : xi_S} {c : Nat} (h : ShR S c) : S.1 (c + 7) = 0 := h.2.2.2.2.2.2.2.2.2.2.2.2.2.2.2.2.1
theorem sR_k8 {S : xi_S} {c : Nat} (h : ShR S c) : S.1 (c + 8) = 0 := h.2.2.2.2.2.2.2.2.2.2.2.2.2.2.2.2.2.1
theorem sR_k9 {S : xi_S} {c : Nat} (h : ShR S c) : S.1 (c + 9) = 0 := h.2.2.2.2.2.2.2.2.2.2.2.2.2.2.2.2.2.2.1
theorem sR_l1 {S : xi_S} {c : Nat} (h : ShR S c) : S.2.1 (c + 1) = 4 := h.2.2.2.2.2.2.2.2.2.2.2.2.2.2.2.2.2.2.2.1
theorem sR_l2 {S : xi_S} {c : Nat} (h : ShR S c) : S.2.1 (c + 2) = 2 := h.2.2.2.2.2.2.2.2.2.2.2.2.2.2.2.2.2.2.2.2.1
theorem sR_l3 {S : xi_S} {c : Nat} (h : ShR S c) : S.2.1 (c + 3) = 6 := h.2.2.2.2.2.2.2.2.2.2.2.2.2.2.2.2.2.2.2.2.2.1
theorem sR_l4 {S : xi_S} {c : Nat} (h : ShR S c) : S.2.1 (c + 4) = 6 := h.2.2.2.2.2.2.2.2.2.2.2.2.2.2.2.2.2.2.2.2.2.2.1
theorem sR_l5 {S : xi_S} {c : Nat} (h : ShR S c) : S.2.1 (c + 5) = 6 := h.2.2.2.2.2.2.2.2.2.2.2.2.2.2.2.2.2.2.2.2.2.2.2.1
theorem sR_l6 {S : xi_S} {c : Nat} (h : ShR S c) : S.2.1 (c + 6) = 6 := h.2.2.2.2.2.2.2.2.2.2.2.2.2.2.2.2.2.2.2.2.2.2.2.2.1
theorem sR_l7 {S : xi_S} {c : Nat} (h : ShR S c) : S.2.1 (c + 7) = 40 := h.2.2.2.2.2.2.2.2.2.2.2.2.2.2.2.2.2.2.2.2.2.2.2.2.2.1
theorem sR_l8 {S : xi_S} {c : Nat} (h : ShR S c) : S.2.1 (c + 8) = 40 := h.2.2.2.2.2.2.2.2.2.2.2.2.2.2.2.2.2.2.2.2.2.2.2.2.2.2.1
theorem sR_l9 {S : xi_S} {c : Nat} (h : ShR S c) : S.2.1 (c + 9) = 40 := h.2.2.2.2.2.2.2.2.2.2.2.2.2.2.2.2.2.2.2.2.2.2.2.2.2.2.2
