/-! the start -/
theorem cl_st : CLo (upN (upN (upN (upN (upN (upN (upN (upN (upN (upN (upN (upN (upN (upN (upN (upN (upN (upN (upN (upN (upN (upN (upN (NL 5) 3) 11) 23) 24) 25) 26) 27) 28) 29) 30) 31) 32) 33) 34) 35) 36) 37) 38) 39) 40) 41) 42) 44) (up3 (up3 (up3 (up3 (up3 (up3 (up3 (up3 (up3 (up3 (up3 (up3 (up3 (up3 (up3 (up3 (up3 (up3 (up3 (up3 (up3 (up3 (RQ 5) 0 0 4 (some 0)) 11 0 3 (some 0)) 11 0 4 (some 0)) 11 0 5 (some 0)) 11 0 6 (some 0)) 11 0 7 (some 0)) 11 0 8 (some 0)) 11 0 9 (some 0)) 11 0 10 (some 0)) 11 0 11 (some 0)) 11 0 12 (some 0)) 11 0 13 (some 0)) 11 0 14 (some 0)) 11 0 15 (some 0)) 11 0 16 (some 0)) 11 0 17 (some 0)) 11 0 18 (some 0)) 11 0 19 (some 0)) 11 0 20 (some 0)) 11 0 21 (some 0)) 11 0 22 (some 0)) 11 0 24 (some 0)) := by
  have c0 : CLo (upN (NL 5) 3) (up3 (RQ 5) 0 0 4 (some 0)) := ((RQ_cl 5).new (I := zI) (J := zJ) (kc := 3) (fun k => ⟨rfl, rfl, by simp [RQ]⟩)).up rfl (upN_s rfl)
  have n0 : CLo (upN (upN (NL 5) 3) 11) (up3 (RQ 5) 0 0 4 (some 0)) := c0.new (I := zI) (J := zJ) (kc := 11) (fun k => ⟨rfl, rfl, by simp [RQ, up3]⟩)
  have n1 : CLo (upN (upN (upN (NL 5) 3) 11) 23) (up3 (up3 (RQ 5) 0 0 4 (some 0)) 11 0 3 (some 0)) := (n0.new (I := zI) (J := zJ) (kc := 23) (fun k => ⟨rfl, rfl, by simp [RQ, up3]⟩)).up rfl (upN_s rfl)
  have n2 : CLo (upN (upN (upN (upN (NL 5) 3) 11) 23) 24) (up3 (up3 (up3 (RQ 5) 0 0 4 (some 0)) 11 0 3 (some 0)) 11 0 4 (some 0)) := (n1.new (I := zI) (J := zJ) (kc := 24) (fun k => ⟨rfl, rfl, by simp [RQ, up3]⟩)).up rfl (upN_s rfl)
  have n3 : CLo (upN (upN (upN (upN (upN (NL 5) 3) 11) 23) 24) 25) (up3 (up3 (up3 (up3 (RQ 5) 0 0 4 (some 0)) 11 0 3 (some 0)) 11 0 4 (some 0)) 11 0 5 (some 0)) := (n2.new (I := zI) (J := zJ) (kc := 25) (fun k => ⟨rfl, rfl, by simp [RQ, up3]⟩)).up rfl (upN_s rfl)
  have n4 : CLo (upN (upN (upN (upN (upN (upN (NL 5) 3) 11) 23) 24) 25) 26) (up3 (up3 (up3 (up3 (up3 (RQ 5) 0 0 4 (some 0)) 11 0 3 (some 0)) 11 0 4 (some 0)) 11 0 5 (some 0)) 11 0 6 (some 0)) := (n3.new (I := zI) (J := zJ) (kc := 26) (fun k => ⟨rfl, rfl, by simp [RQ, up3]⟩)).up rfl (upN_s rfl)
  have n5 : CLo (upN (upN (upN (upN (upN (upN (upN (NL 5) 3) 11) 23) 24) 25) 26) 27) (up3 (up3 (up3 (up3 (up3 (up3 (RQ 5) 0 0 4 (some 0)) 11 0 3 (some 0)) 11 0 4 (some 0)) 11 0 5 (some 0)) 11 0 6 (some 0)) 11 0 7 (some 0)) := (n4.new (I := zI) (J := zJ) (kc := 27) (fun k => ⟨rfl, rfl, by simp [RQ, up3]⟩)).up rfl (upN_s rfl)
  have n6 : CLo (upN (upN (upN (upN (upN (upN (upN (upN (NL 5) 3) 11) 23) 24) 25) 26) 27) 28) (up3 (up3 (up3 (up3 (up3 (up3 (up3 (RQ 5) 0 0 4 (some 0)) 11 0 3 (some 0)) 11 0 4 (some 0)) 11 0 5 (some 0)) 11 0 6 (some 0)) 11 0 7 (some 0)) 11 0 8 (some 0)) := (n5.new (I := zI) (J := zJ) (kc := 28) (fun k => ⟨rfl, rfl, by simp [RQ, up3]⟩)).up rfl (upN_s rfl)
  have n7 : CLo (upN (upN (upN (upN (upN (upN (upN (upN (upN (NL 5) 3) 11) 23) 24) 25) 26) 27) 28) 29) (up3 (up3 (up3 (up3 (up3 (up3 (up3 (up3 (RQ 5) 0 0 4 (some 0)) 11 0 3 (some 0)) 11 0 4 (some 0)) 11 0 5 (some 0)) 11 0 6 (some 0)) 11 0 7 (some 0)) 11 0 8 (some 0)) 11 0 9 (some 0)) := (n6.new (I := zI) (J := zJ) (kc := 29) (fun k => ⟨rfl, rfl, by simp [RQ, up3]⟩)).up rfl (upN_s rfl)
  have n8 : CLo (upN (upN (upN (upN (upN (upN (upN (upN (upN (upN (NL 5) 3) 11) 23) 24) 25) 26) 27) 28) 29) 30) (up3 (up3 (up3 (up3 (up3 (up3 (up3 (up3 (up3 (RQ 5) 0 0 4 (some 0)) 11 0 3 (some 0)) 11 0 4 (some 0)) 11 0 5 (some 0)) 11 0 6 (some 0)) 11 0 7 (some 0)) 11 0 8 (some 0)) 11 0 9 (some 0)) 11 0 10 (some 0)) := (n7.new (I := zI) (J := zJ) (kc := 30) (fun k => ⟨rfl, rfl, by simp [RQ, up3]⟩)).up rfl (upN_s rfl)
  have n9 : CLo (upN (upN (upN (upN (upN (upN (upN (upN (upN (upN (upN (NL 5) 3) 11) 23) 24) 25) 26) 27) 28) 29) 30) 31) (up3 (up3 (up3 (up3 (up3 (up3 (up3 (up3 (up3 (up3 (RQ 5) 0 0 4 (some 0)) 11 0 3 (some 0)) 11 0 4 (some 0)) 11 0 5 (some 0)) 11 0 6 (some 0)) 11 0 7 (some 0)) 11 0 8 (some 0)) 11 0 9 (some 0)) 11 0 10 (some 0)) 11 0 11 (some 0)) := (n8.new (I := zI) (J := zJ) (kc := 31) (fun k => ⟨rfl, rfl, by simp [RQ, up3]⟩)).up rfl (upN_s rfl)
  have n10 : CLo (upN (upN (upN (upN (upN (upN (upN (upN (upN (upN (upN (upN (NL 5) 3) 11) 23) 24) 25) 26) 27) 28) 29) 30) 31) 32) (up3 (up3 (up3 (up3 (up3 (up3 (up3 (up3 (up3 (up3 (up3 (RQ 5) 0 0 4 (some 0)) 11 0 3 (some 0)) 11 0 4 (some 0)) 11 0 5 (some 0)) 11 0 6 (some 0)) 11 0 7 (some 0)) 11 0 8 (some 0)) 11 0 9 (some 0)) 11 0 10 (some 0)) 11 0 11 (some 0)) 11 0 12 (some 0)) := (n9.new (I := zI) (J := zJ) (kc := 32) (fun k => ⟨rfl, rfl, by simp [RQ, up3]⟩)).up rfl (upN_s rfl)
  have n11 : CLo (upN (upN (upN (upN (upN (upN (upN (upN (upN (upN (upN (upN (upN (NL 5) 3) 11) 23) 24) 25) 26) 27) 28) 29) 30) 31) 32) 33) (up3 (up3 (up3 (up3 (up3 (up3 (up3 (up3 (up3 (up3 (up3 (up3 (RQ 5) 0 0 4 (some 0)) 11 0 3 (some 0)) 11 0 4 (some 0)) 11 0 5 (some 0)) 11 0 6 (some 0)) 11 0 7 (some 0)) 11 0 8 (some 0)) 11 0 9 (some 0)) 11 0 10 (some 0)) 11 0 11 (some 0)) 11 0 12 (some 0)) 11 0 13 (some 0)) := (n10.new (I := zI) (J := zJ) (kc := 33) (fun k => ⟨rfl, rfl, by simp [RQ, up3]⟩)).up rfl (upN_s rfl)
  have n12 : CLo (upN (upN (upN (upN (upN (upN (upN (upN (upN (upN (upN (upN (upN (upN (NL 5) 3) 11) 23) 24) 25) 26) 27) 28) 29) 30) 31) 32) 33) 34) (up3 (up3 (up3 (up3 (up3 (up3 (up3 (up3 (up3 (up3 (up3 (up3 (up3 (RQ 5) 0 0 4 (some 0)) 11 0 3 (some 0)) 11 0 4 (some 0)) 11 0 5 (some 0)) 11 0 6 (some 0)) 11 0 7 (some 0)) 11 0 8 (some 0)) 11 0 9 (some 0)) 11 0 10 (some 0)) 11 0 11 (some 0)) 11 0 12 (some 0)) 11 0 13 (some 0)) 11 0 14 (some 0)) := (n11.new (I := zI) (J := zJ) (kc := 34) (fun k => ⟨rfl, rfl, by simp [RQ, up3]⟩)).up rfl (upN_s rfl)
  have n13 : CLo (upN (upN (upN (upN (upN (upN (upN (upN (upN (upN (upN (upN (upN (upN (upN (NL 5) 3) 11) 23) 24) 25) 26) 27) 28) 29) 30) 31) 32) 33) 34) 35) (up3 (up3 (up3 (up3 (up3 (up3 (up3 (up3 (up3 (up3 (up3 (up3 (up3 (up3 (RQ 5) 0 0 4 (some 0)) 11 0 3 (some 0)) 11 0 4 (some 0)) 11 0 5 (some 0)) 11 0 6 (some 0)) 11 0 7 (some 0)) 11 0 8 (some 0)) 11 0 9 (some 0)) 11 0 10 (some 0)) 11 0 11 (some 0)) 11 0 12 (some 0)) 11 0 13 (some 0)) 11 0 14 (some 0)) 11 0 15 (some 0)) := (n12.new (I := zI) (J := zJ) (kc := 35) (fun k => ⟨rfl, rfl, by simp [RQ, up3]⟩)).up rfl (upN_s rfl)
  have n14 : CLo (upN (upN (upN (upN (upN (upN (upN (upN (upN (upN (upN (upN (upN (upN (upN (upN (NL 5) 3) 11) 23) 24) 25) 26) 27) 28) 29) 30) 31) 32) 33) 34) 35) 36) (up3 (up3 (up3 (up3 (up3 (up3 (up3 (up3 (up3 (up3 (up3 (up3 (up3 (up3 (up3 (RQ 5) 0 0 4 (some 0)) 11 0 3 (some 0)) 11 0 4 (some 0)) 11 0 5 (some 0)) 11 0 6 (some 0)) 11 0 7 (some 0)) 11 0 8 (some 0)) 11 0 9 (some 0)) 11 0 10 (some 0)) 11 0 11 (some 0)) 11 0 12 (some 0)) 11 0 13 (some 0)) 11 0 14 (some 0)) 11 0 15 (some 0)) 11 0 16 (some 0)) := (n13.new (I := zI) (J := zJ) (kc := 36) (fun k => ⟨rfl, rfl, by simp [RQ, up3]⟩)).up rfl (upN_s rfl)
  have n15 : CLo (upN (upN (upN (upN (upN (upN (upN (upN (upN (upN (upN (upN (upN (upN (upN (upN (upN (NL 5) 3) 11) 23) 24) 25) 26) 27) 28) 29) 30) 31) 32) 33) 34) 35) 36) 37) (up3 (up3 (up3 (up3 (up3 (up3 (up3 (up3 (up3 (up3 (up3 (up3 (up3 (up3 (up3 (up3 (RQ 5) 0 0 4 (some 0)) 11 0 3 (some 0)) 11 0 4 (some 0)) 11 0 5 (some 0)) 11 0 6 (some 0)) 11 0 7 (some 0)) 11 0 8 (some 0)) 11 0 9 (some 0)) 11 0 10 (some 0)) 11 0 11 (some 0)) 11 0 12 (some 0)) 11 0 13 (some 0)) 11 0 14 (some 0)) 11 0 15 (some 0)) 11 0 16 (some 0)) 11 0 17 (some 0)) := (n14.new (I := zI) (J := zJ) (kc := 37) (fun k => ⟨rfl, rfl, by simp [RQ, up3]⟩)).up rfl (upN_s rfl)
  have n16 : CLo (upN (upN (upN (upN (upN (upN (upN (upN (upN (upN (upN (upN (upN (upN (upN (upN (upN (upN (NL 5) 3) 11) 23) 24) 25) 26) 27) 28) 29) 30) 31) 32) 33) 34) 35) 36) 37) 38) (up3 (up3 (up3 (up3 (up3 (up3 (up3 (up3 (up3 (up3 (up3 (up3 (up3 (up3 (up3 (up3 (up3 (RQ 5) 0 0 4 (some 0)) 11 0 3 (some 0)) 11 0 4 (some 0)) 11 0 5 (some 0)) 11 0 6 (some 0)) 11 0 7 (some 0)) 11 0 8 (some 0)) 11 0 9 (some 0)) 11 0 10 (some 0)) 11 0 11 (some 0)) 11 0 12 (some 0)) 11 0 13 (some 0)) 11 0 14 (some 0)) 11 0 15 (some 0)) 11 0 16 (some 0)) 11 0 17 (some 0)) 11 0 18 (some 0)) := (n15.new (I := zI) (J := zJ) (kc := 38) (fun k => ⟨rfl, rfl, by simp [RQ, up3]⟩)).up rfl (upN_s rfl)
  have n17 : CLo (upN (upN (upN (upN (upN (upN (upN (upN (upN (upN (upN (upN (upN (upN (upN (upN (upN (upN (upN (NL 5) 3) 11) 23) 24) 25) 26) 27) 28) 29) 30) 31) 32) 33) 34) 35) 36) 37) 38) 39) (up3 (up3 (up3 (up3 (up3 (up3 (up3 (up3 (up3 (up3 (up3 (up3 (up3 (up3 (up3 (up3 (up3 (up3 (RQ 5) 0 0 4 (some 0)) 11 0 3 (some 0)) 11 0 4 (some 0)) 11 0 5 (some 0)) 11 0 6 (some 0)) 11 0 7 (some 0)) 11 0 8 (some 0)) 11 0 9 (some 0)) 11 0 10 (some 0)) 11 0 11 (some 0)) 11 0 12 (some 0)) 11 0 13 (some 0)) 11 0 14 (some 0)) 11 0 15 (some 0)) 11 0 16 (some 0)) 11 0 17 (some 0)) 11 0 18 (some 0)) 11 0 19 (some 0)) := (n16.new (I := zI) (J := zJ) (kc := 39) (fun k => ⟨rfl, rfl, by simp [RQ, up3]⟩)).up rfl (upN_s rfl)
  have n18 : CLo (upN (upN (upN (upN (upN (upN (upN (upN (upN (upN (upN (upN (upN (upN (upN (upN (upN (upN (upN (upN (NL 5) 3) 11) 23) 24) 25) 26) 27) 28) 29) 30) 31) 32) 33) 34) 35) 36) 37) 38) 39) 40) (up3 (up3 (up3 (up3 (up3 (up3 (up3 (up3 (up3 (up3 (up3 (up3 (up3 (up3 (up3 (up3 (up3 (up3 (up3 (RQ 5) 0 0 4 (some 0)) 11 0 3 (some 0)) 11 0 4 (some 0)) 11 0 5 (some 0)) 11 0 6 (some 0)) 11 0 7 (some 0)) 11 0 8 (some 0)) 11 0 9 (some 0)) 11 0 10 (some 0)) 11 0 11 (some 0)) 11 0 12 (some 0)) 11 0 13 (some 0)) 11 0 14 (some 0)) 11 0 15 (some 0)) 11 0 16 (some 0)) 11 0 17 (some 0)) 11 0 18 (some 0)) 11 0 19 (some 0)) 11 0 20 (some 0)) := (n17.new (I := zI) (J := zJ) (kc := 40) (fun k => ⟨rfl, rfl, by simp [RQ, up3]⟩)).up rfl (upN_s rfl)
  have n19 : CLo (upN (upN (upN (upN (upN (upN (upN (upN (upN (upN (upN (upN (upN (upN (upN (upN (upN (upN (upN (upN (upN (NL 5) 3) 11) 23) 24) 25) 26) 27) 28) 29) 30) 31) 32) 33) 34) 35) 36) 37) 38) 39) 40) 41) (up3 (up3 (up3 (up3 (up3 (up3 (up3 (up3 (up3 (up3 (up3 (up3 (up3 (up3 (up3 (up3 (up3 (up3 (up3 (up3 (RQ 5) 0 0 4 (some 0)) 11 0 3 (some 0)) 11 0 4 (some 0)) 11 0 5 (some 0)) 11 0 6 (some 0)) 11 0 7 (some 0)) 11 0 8 (some 0)) 11 0 9 (some 0)) 11 0 10 (some 0)) 11 0 11 (some 0)) 11 0 12 (some 0)) 11 0 13 (some 0)) 11 0 14 (some 0)) 11 0 15 (some 0)) 11 0 16 (some 0)) 11 0 17 (some 0)) 11 0 18 (some 0)) 11 0 19 (some 0)) 11 0 20 (some 0)) 11 0 21 (some 0)) := (n18.new (I := zI) (J := zJ) (kc := 41) (fun k => ⟨rfl, rfl, by simp [RQ, up3]⟩)).up rfl (upN_s rfl)
  have n20 : CLo (upN (upN (upN (upN (upN (upN (upN (upN (upN (upN (upN (upN (upN (upN (upN (upN (upN (upN (upN (upN (upN (upN (NL 5) 3) 11) 23) 24) 25) 26) 27) 28) 29) 30) 31) 32) 33) 34) 35) 36) 37) 38) 39) 40) 41) 42) (up3 (up3 (up3 (up3 (up3 (up3 (up3 (up3 (up3 (up3 (up3 (up3 (up3 (up3 (up3 (up3 (up3 (up3 (up3 (up3 (up3 (RQ 5) 0 0 4 (some 0)) 11 0 3 (some 0)) 11 0 4 (some 0)) 11 0 5 (some 0)) 11 0 6 (some 0)) 11 0 7 (some 0)) 11 0 8 (some 0)) 11 0 9 (some 0)) 11 0 10 (some 0)) 11 0 11 (some 0)) 11 0 12 (some 0)) 11 0 13 (some 0)) 11 0 14 (some 0)) 11 0 15 (some 0)) 11 0 16 (some 0)) 11 0 17 (some 0)) 11 0 18 (some 0)) 11 0 19 (some 0)) 11 0 20 (some 0)) 11 0 21 (some 0)) 11 0 22 (some 0)) := (n19.new (I := zI) (J := zJ) (kc := 42) (fun k => ⟨rfl, rfl, by simp [RQ, up3]⟩)).up rfl (upN_s rfl)
  have n21 : CLo (upN (upN (upN (upN (upN (upN (upN (upN (upN (upN (upN (upN (upN (upN (upN (upN (upN (upN (upN (upN (upN (upN (upN (NL 5) 3) 11) 23) 24) 25) 26) 27) 28) 29) 30) 31) 32) 33) 34) 35) 36) 37) 38) 39) 40) 41) 42) 44) (up3 (up3 (up3 (up3 (up3 (up3 (up3 (up3 (up3 (up3 (up3 (up3 (up3 (up3 (up3 (up3 (up3 (up3 (up3 (up3 (up3 (up3 (RQ 5) 0 0 4 (some 0)) 11 0 3 (some 0)) 11 0 4 (some 0)) 11 0 5 (some 0)) 11 0 6 (some 0)) 11 0 7 (some 0)) 11 0 8 (some 0)) 11 0 9 (some 0)) 11 0 10 (some 0)) 11 0 11 (some 0)) 11 0 12 (some 0)) 11 0 13 (some 0)) 11 0 14 (some 0)) 11 0 15 (some 0)) 11 0 16 (some 0)) 11 0 17 (some 0)) 11 0 18 (some 0)) 11 0 19 (some 0)) 11 0 20 (some 0)) 11 0 21 (some 0)) 11 0 22 (some 0)) 11 0 24 (some 0)) := (n20.new (I := zI) (J := zJ) (kc := 44) (fun k => ⟨rfl, rfl, by simp [RQ, up3]⟩)).up rfl (upN_s rfl)
  exact n21
def Rs : Fr := (up3 (up3 (up3 (up3 (up3 (up3 (up3 (up3 (up3 (up3 (up3 (up3 (up3 (up3 (up3 (up3 (up3 (up3 (up3 (up3 (up3 (up3 (RQ 5) 0 0 4 (some 0)) 11 0 3 (some 0)) 11 0 4 (some 0)) 11 0 5 (some 0)) 11 0 6 (some 0)) 11 0 7 (some 0)) 11 0 8 (some 0)) 11 0 9 (some 0)) 11 0 10 (some 0)) 11 0 11 (some 0)) 11 0 12 (some 0)) 11 0 13 (some 0)) 11 0 14 (some 0)) 11 0 15 (some 0)) 11 0 16 (some 0)) 11 0 17 (some 0)) 11 0 18 (some 0)) 11 0 19 (some 0)) 11 0 20 (some 0)) 11 0 21 (some 0)) 11 0 22 (some 0)) 11 0 24 (some 0))
def Ns : Nat → Nat := upN (upN (upN (upN (upN (upN (upN (upN (upN (upN (upN (upN (upN (upN (upN (upN (upN (upN (upN (upN (upN (upN (upN (NL 5) 3) 11) 23) 24) 25) 26) 27) 28) 29) 30) 31) 32) 33) 34) 35) 36) 37) 38) 39) 40) 41) 42) 44
theorem Ns_12 : upN Ns 12 = Nn 0 := by
  funext c
  rcases Nat.lt_or_ge c 45 with h | h
  · have hd : ∀ c : Fin 45, upN Ns 12 c.val = Nn 0 c.val := by decide +kernel
    exact hd ⟨c, h⟩
  · have e1 : Nn 0 c = 0 := by unfold Nn; split <;> first | rfl | omega
    have e2 : NL 5 c = 0 := by unfold NL; split <;> first | rfl | omega
    rw [e1]
    simp only [Ns, upN]
    repeat rw [if_neg (by omega)]
    exact e2
theorem Rs_o {c i k : Nat} (h : ¬ c = 11) : Rs c i k = up3 (RQ 5) 0 0 4 (some 0) c i k := by
  unfold Rs
  rw [up3_c _ _ _ _ _ h, up3_c _ _ _ _ _ h, up3_c _ _ _ _ _ h, up3_c _ _ _ _ _ h, up3_c _ _ _ _ _ h, up3_c _ _ _ _ _ h, up3_c _ _ _ _ _ h, up3_c _ _ _ _ _ h, up3_c _ _ _ _ _ h, up3_c _ _ _ _ _ h, up3_c _ _ _ _ _ h, up3_c _ _ _ _ _ h, up3_c _ _ _ _ _ h, up3_c _ _ _ _ _ h, up3_c _ _ _ _ _ h, up3_c _ _ _ _ _ h, up3_c _ _ _ _ _ h, up3_c _ _ _ _ _ h, up3_c _ _ _ _ _ h, up3_c _ _ _ _ _ h, up3_c _ _ _ _ _ h]
theorem ST_st : ST 0 Rs := by
  intro c i k hi hs
  have hc : c = 0 ∨ c = 4 ∨ c = 7 ∨ c = 9 ∨ c = 11 := by
    unfold sfin at hs
    split at hs <;> first | omega | cases hs
  rcases hc with rfl | rfl | rfl | rfl | rfl
  · have h0 : i = 0 := by simp only [Nn] at hi; omega
    subst h0
    rw [Rs_o (by decide)]
    have hk : k = 0 ∨ k = 3 ∨ k = 4 := by simpa [sfin, or_assoc] using hs
    rcases hk with rfl | rfl | rfl <;> simp [up3, RQ]
  · exact absurd hi (Nat.not_lt_zero _)
  · exact absurd hi (Nat.not_lt_zero _)
  · have h0 : i < 5 := hi
    have hk : k = 0 := by simpa [sfin] using hs
    subst hk
    rw [Rs_o (by decide)]
    simp [up3, RQ, h0]
  · have h0 : i = 0 := by simp only [Nn] at hi; omega
    subst h0
    have hk25 : k < 25 := by
      simp only [sfin, Bool.and_eq_true] at hs
      exact Nat.blt_eq.mp hs.2
    have hd : ∀ k : Fin 25, sfin 11 k.val = true → Rs 11 0 k.val = some 0 := by decide +kernel
    exact hd ⟨k, hk25⟩ hs
theorem SIM_st : SIM 0 0 zI zJ Rs := by
  refine ⟨fun _ => 0, fun _ => 0, fun _ => 0, fun _ _ => 0, fun _ _ => 0, fun _ _ => 0, ⟨fun k hk => absurd hk (Nat.not_lt_zero _), fun k hk => absurd hk (Nat.not_lt_zero _), ⟨rfl, rfl, by decide, fun k hk => absurd hk (Nat.not_lt_zero _)⟩, fun k hk => absurd hk (Nat.not_lt_zero _), ⟨fun k hk => absurd hk (Nat.not_lt_zero _), fun _ _ => rfl⟩, ⟨fun k j hk => absurd hk (Nat.not_lt_zero _), fun k i hk => absurd hk (Nat.not_lt_zero _)⟩, ⟨0, by decide, rfl, rfl, fun i hi => absurd hi (Nat.not_lt_zero _)⟩, ST_st, ⟨rfl, by decide, fun k hk => absurd hk (Nat.not_lt_zero _), fun q hq => ?_, fun k hk => absurd hk (Nat.not_lt_zero _)⟩, ⟨rfl, by decide⟩, ?_, fun c i hc _ q => ⟨rfl, rfl, ?_⟩, fun k _ => ⟨rfl, rfl, rfl, rfl, rfl, rfl, rfl, rfl⟩⟩, ⟨fun q _ => ⟨rfl, rfl, Nat.zero_le _⟩, fun q j _ hj => absurd hj (Nat.not_lt_zero _), fun q j q2 j2 _ hj => absurd hj (Nat.not_lt_zero _), fun k hk => absurd hk (Nat.not_lt_zero _)⟩, rfl⟩
  · rw [Rs_o (by decide)]; simp [up3, RQ, hq]
  · rw [← Ns_12]
    exact cl_st.new (I := zI) (J := zJ) (kc := 12) (fun k => ⟨rfl, rfl, by simp [RQ, up3]⟩)
  · rw [Rs_o (by omega)]
    rcases hc with rfl | rfl | rfl | rfl | rfl <;> simp [up3, RQ]
/-! what the tables give at the start -/
theorem arr_p {s : State} {args : Array Value} {ty : FieldType} (h : (Cond.arrayClass ty).before args s = true) : ∃ cA : ClassId, ArrOfT s cA ty ∧ s.vm.findClass ("[" ++ ty.toString) = some cA := by
  obtain ⟨cA, k, comp, h1, h2, h3⟩ := Cond.arrayClass_spec h
  exact ⟨cA, fun n z => ⟨fun k h => (by cases h), k, h2, comp, h3⟩, h1⟩
theorem arr_o {s : State} {args : Array Value} {C : String} (h : (Cond.arrayOver (.object C)).before args s = true) : ∃ cA : ClassId, ArrOfT s cA (.object C) ∧ va_RA s cA (.object C) := by
  obtain ⟨comp, cA, k, h1, h2, h3, h4, h5⟩ := Cond.arrayOver_spec h
  exact ⟨cA, fun n z => ⟨fun k h => (by cases h), k, h3, comp, h4⟩, k, comp, h3, h4, h1, h5⟩
theorem in_0 : ∀ w ∈ wsX00, w ∈ lw_tbl := by decide +kernel
theorem in_1 : ∀ w ∈ wsX10, w ∈ lw_tbl := by decide +kernel
theorem in_2 : ∀ w ∈ wsX20, w ∈ lw_tbl := by decide +kernel
theorem in_3 : ∀ w ∈ wsX30, w ∈ lw_tbl := by decide +kernel
theorem in_4 : ∀ w ∈ wsX40, w ∈ lw_tbl := by decide +kernel
theorem lw_K {s : State} {args : Array Value} (hts : ∀ w ∈ lw_tbl, w.before args s = true) : ∃ (D : va_G) (dA : Nat → ClassId), va_K D vwCl (tysX dA) s := by
  obtain ⟨c0, i0, k0⟩ := u_known (C := RX0) (T := TX0) (N := 18) (n := 18) hts in_0 (hts (.instantiable RX0 18) (by decide +kernel))
  obtain ⟨c1, i1, k1⟩ := u_known (C := RX1) (T := TX1) (N := 2) (n := 2) hts in_1 (hts (.instantiable RX1 2) (by decide +kernel))
  obtain ⟨c2, i2, k2⟩ := u_known (C := RX2) (T := TX2) (N := 5) (n := 5) hts in_2 (hts (.instantiable RX2 5) (by decide +kernel))
  obtain ⟨c3, i3, k3⟩ := u_known (C := RX3) (T := TX3) (N := 6) (n := 6) hts in_3 (hts (.instantiable RX3 6) (by decide +kernel))
  obtain ⟨c4, i4, k4⟩ := u_known (C := RX4) (T := TX4) (N := 25) (n := 25) hts in_4 (hts (.instantiable RX4 25) (by decide +kernel))
  obtain ⟨a0, b0, d0⟩ := arr_p (hts (.arrayClass .int) (by decide +kernel))
  obtain ⟨a1, b1, d1⟩ := arr_p (hts (.arrayClass .long) (by decide +kernel))
  obtain ⟨a2, b2, d2⟩ := arr_p (hts (.arrayClass .boolean) (by decide +kernel))
  obtain ⟨a3, b3, d3⟩ := arr_o (hts (.arrayOver (.object RX0)) (by decide +kernel))
  obtain ⟨a4, b4, d4⟩ := arr_o (hts (.arrayOver (.object RX1)) (by decide +kernel))
  refine ⟨(fun k => if k = 0 then c0 else if k = 1 then c1 else if k = 2 then c2 else if k = 3 then c3 else c4, fun k => if k = 0 then i0 else if k = 1 then i1 else if k = 2 then i2 else if k = 3 then i3 else i4), fun k => if k = 0 then a0 else if k = 1 then a1 else if k = 2 then a2 else if k = 3 then a3 else a4, fun k q hq => ?_, fun k q hq => ?_⟩
  · match k, hq with
    | 0, hq => cases hq; exact k0
    | 1, hq => cases hq; exact k1
    | 2, hq => cases hq; exact k2
    | 3, hq => cases hq; exact k3
    | 4, hq => cases hq; exact k4
    | k + 5, hq => simp [vwCl] at hq
  · match k, hq with
    | 0, hq => cases hq; exact ⟨b0, d0⟩
    | 1, hq => cases hq; exact ⟨b1, d1⟩
    | 2, hq => cases hq; exact ⟨b2, d2⟩
    | 3, hq => cases hq; exact ⟨b3, d3⟩
    | 4, hq => cases hq; exact ⟨b4, d4⟩
    | k + 5, hq => simp at hq
theorem lw_X {s : State} {args : Array Value} (hts : ∀ w ∈ lw_tbl, w.before args s = true) : XT s := ⟨va_AO.of (hts _ (by decide +kernel)), va_AO.of (hts _ (by decide +kernel)), va_Nw.of rfl (hts _ (by decide +kernel)), va_Nw.of rfl (hts _ (by decide +kernel))⟩
theorem vB_in : ∀ w ∈ vB, w ∈ lw_tbl := by decide +kernel
theorem lw_V {s : State} {b : Nat} (hts : ∀ w ∈ lw_tbl, w.before #[Value.ref b] s = true) (hgv : (Jvm.Cond.and given_1 narrow_1).before #[Value.ref b] s = true) : XV s.heap.size s := by
  have hfl := flat_of_before _ hgv
  have hcl : ∃ cur, s.vm.findClass RX3 = some cur := by
    obtain ⟨cC, kC, hfc, -⟩ := Cond.instantiable_spec (hts (.instantiable RX3 6) (by decide +kernel))
    exact ⟨cC, hfc⟩
  obtain ⟨cur, hcur⟩ := hcl
  have h123 := hts (.stringRef RX3 123 "there is no such key") (by decide +kernel)
  have h130 := hts (.stringRef RX3 130 "the key isn't sure, or has failed") (by decide +kernel)
  obtain ⟨-, -, -, a1, -, -, -, -, -, e1⟩ := Cond.stringRef_spec hcur h123
  obtain ⟨-, -, -, a2, -, -, -, -, -, e2⟩ := Cond.stringRef_spec hcur h130
  exact ⟨fun w hw => va_Nw.of (vB_ot w hw) (hts w (vB_in w hw)), ⟨a1, vk_R.of h123 e1⟩, ⟨a2, vk_R.of h130 e2⟩, vx_Zqof (hts _ (by decide +kernel)) (hts _ (by decide +kernel)) (hfl _ (by decide +kernel)) (fun a ha => Nat.not_le.mpr ha), vx_Zqof (hts _ (by decide +kernel)) (hts _ (by decide +kernel)) (hfl _ (by decide +kernel)) (fun a ha => Nat.not_le.mpr ha), va_Nc.of (hfl _ (by decide +kernel))⟩
theorem mc_L_8 : Cond.classLink RL 8 RX3 ∈ lw_gd := gd_in (by decide +kernel) rfl
theorem mc_L_18 : Cond.classLink RL 18 RX4 ∈ lw_gd := gd_in (by decide +kernel) rfl
theorem ml_L_17 : Cond.methodLink RL 17 yX3_init ∈ lw_gd := gd_in (by decide +kernel) rfl
theorem ml_L_20 : Cond.methodLink RL 20 yX4_init ∈ lw_gd := gd_in (by decide +kernel) rfl
set_option maxRecDepth 100000 in
set_option maxHeartbeats 4000000 in
/-- THE LAW, from its entry -/
theorem whole_start {p : Program} {e : Env} {s : State} {m : MethodId} {below : List Frame} {meth : Method} {c : Code} (l : Launch) (hl : l.stackTraces = false) {b L : Nat} {xs : Nat → Int32} (hL : L ≤ 2048) (C0 : lw_At p s m meth c b L xs) : W p l e room_1 s m #[Value.ref b] below meth c s.heap [] 0 0 (lw_Z below #[Value.ref b] s) (entryFrame m ([Value.ref b] : List Value).toArray 8) := by
  obtain ⟨hx, hb, hr, hml, hown, hts, hXs, hbl, hlocks, hgv⟩ := id C0
  obtain ⟨D, dA, hK⟩ := lw_K hts
  have hX : XT s := lw_X hts
  have hV : XV s.heap.size s := lw_V hts hgv
  have C : CX p s m #[Value.ref b] meth c cL_law 8 RL ret D dA s.heap.size := ⟨hx, hb, hml, hown, fun w h => hts w (List.mem_filter.mp h).1, hK, Nat.le_refl _, hr, hlocks⟩
  rw [lg_entry_eq]
  suffices hg : GX p l e room_1 s m #[Value.ref b] below meth c (lw_Z below #[Value.ref b] s) D dA s.heap.size 8 (fun _ _ => 0) (fun _ => 0) zI zJ zR 0 0 0 [some (.ref b), none, none, none, none, none, none, none] [] from
    hg s.heap [] _ ⟨fun c i hi => absurd hi (Nat.not_lt_zero _), fun c i c' i' hi => absurd hi (Nat.not_lt_zero _), fun c i hi => absurd hi (Nat.not_lt_zero _)⟩ va_S.rf (LVx.entry [.ref b] 7 (Nat.le_of_ble_eq_true rfl))
  refine x_new C (kc := 0) tyX3 rfl rfl tyX3_ok (by decide) mc_L_8 ins_X3 ini_X3 (fun c i k j t hi => absurd hi (Nat.not_lt_zero _)) (fun k => ⟨rfl, rfl, rfl⟩) (by decide) (by decide) dL_law_0 (fun ad1 hA1 => ?_)
  refine x_dup C rfl dL_law_3 ?_
  refine x_callI C hX yi_X3_init ml_L_17 (c_X3_init l D dA s.heap.size ad1) dL_law_4 rfl rfl (Nat.le_of_ble_eq_true rfl) ⟨by decide, by decide⟩ ⟨by decide, by decide⟩ ?_
  intro r ad2 N2 I2 J2 R2 hpo
  obtain ⟨rfl, hA2, rfl, rfl, rfl, rfl⟩ := hpo
  simp only [Option.toList, List.nil_append]
  have q0 : ad1 0 0 = ad2 0 0 := (hA2 0 0 (by decide)).symm
  rw [q0]
  refine x_astore_n C dL_law_7 (by decide) rfl rfl ?_
  refine x_new C (kc := 11) tyX4 rfl rfl tyX4_ok (by decide) mc_L_18 ins_X4 ini_X4 ?_ (fun k => ⟨rfl, rfl, by simp [RQ, up3]⟩) (by decide) (by decide) dL_law_8 (fun ad3 hA3 => ?_)
  · exact ((RQ_cl 5).new (I := zI) (J := zJ) (kc := 3) (fun k => ⟨rfl, rfl, by simp [RQ]⟩)).up rfl (upN_s rfl)
  refine x_dup C rfl dL_law_11 ?_
  refine x_callI C hX yi_X4_init ml_L_20 (c_X4_init l D dA s.heap.size ad3 (upN (upN (NL 5) 3) 11) zI zJ (up3 (RQ 5) 0 0 4 (some 0)) (upN_s rfl) (fun c hc => ?_) ?_ (fun c hc k => ⟨rfl, rfl, ?_⟩)) dL_law_12 rfl rfl (Nat.le_of_ble_eq_true rfl) ⟨by decide, by decide⟩ ⟨by decide, by decide⟩ ?_
  · simp only [upN, NL]
    rw [if_neg (by omega), if_neg (by omega)]
    split <;> first | rfl | omega
  · exact (((RQ_cl 5).new (I := zI) (J := zJ) (kc := 3) (fun k => ⟨rfl, rfl, by simp [RQ]⟩)).up rfl (upN_s rfl)).new (I := zI) (J := zJ) (kc := 11) (fun k => ⟨rfl, rfl, by simp [RQ, up3]⟩)
  · rw [up3_c _ _ _ _ _ (by omega)]
    unfold RQ
    rw [if_neg (by omega), if_neg (by omega), if_neg (by omega)]
  intro r ad4 N4 I4 J4 R4 hpo
  obtain ⟨rfl, hA4, rfl, rfl, rfl, rfl⟩ := hpo
  simp only [Option.toList, List.nil_append]
  have q1 : ad2 0 0 = ad4 0 0 := ((hA4 0 0 (by decide)).trans (hA3 0 0 (by decide))).symm
  have q2 : ad3 11 0 = ad4 11 0 := (hA4 11 0 (by decide)).symm
  rw [q1]
  show GX p l e room_1 s m #[Value.ref b] below meth c (lw_Z below #[Value.ref b] s) D dA s.heap.size 8 ad4 Ns zI zJ Rs (0 + 1 + 13 + 1 + 21) (0 + 6 + 295 + 25 + 3405) 15 [some (.ref b), some (.ref (ad4 0 0)), none, none, none, none, none, none] [.ref (ad3 11 0)]
  rw [q2]
  refine x_astore_n C dL_law_15 (by decide) rfl rfl ?_
  refine x_iconst C 1 (by decide) dL_law_16 ?_
  refine x_newP C (atype := .long) (kc := 12) rfl rfl rfl (by decide) (fun h => h) (fun k => rfl) ac_J (by decide) cl_st (fun k => ⟨rfl, rfl, ?_⟩) (by decide) (by decide) dL_law_17 (fun ad5 hA5 => ?_)
  · rw [Rs_o (by decide)]; simp [up3, RQ]
  rw [← hA5 0 0 (by decide), ← hA5 11 0 (by decide), Ns_12]
  refine x_astore_n C dL_law_19 (by decide) rfl rfl ?_
  refine x_iconst C 0 (by decide) dL_law_20 ?_
  refine x_istore C dL_law_21 (by decide) rfl rfl ?_
  exact lw_loop C hX hV hl hXs hbl (Nat.le_refl _) hL 513 0 0 0 ad5 zI zJ Rs (by omega) SIM_st (Nat.le_refl _)

set_option maxHeartbeats 4000000 in
theorem lw_walk (l : Launch) (hl : l.stackTraces = false) (b : Addr) (xs : List Int32) : MetFree l x (headSpec (Jvm.Cond.code x code maxLocals ret :: tables_1) room_1) (lw_P b xs) (fun _ _ _ _ _ => True) lw_Q := by
  refine MetFree.of_bodyS (code := code) (maxLocals := maxLocals) (ret := ret) (by decide) ?_ ?_
  · intro args s m h hn
    obtain ⟨meth, c, h1, h2, h3, h4, h5, h6, -, -⟩ := Cond.code_spec hn (atoms_spec (ws := Jvm.Cond.code x code maxLocals ret :: tables_1) h _ List.mem_cons_self)
    exact ⟨meth, c, h1, h2, h3, h4, h5, h6⟩
  · intro p e s m args below meth c s₁ B hml0 hP _
    obtain ⟨rfl, hx, hbd, hgv⟩ := hP
    obtain ⟨scr, harrAt, hlist, hof, hsmall⟩ := hx
    obtain ⟨hcb, hkn, -, -⟩ := State.arrayAt?_spec harrAt
    have hown : s.vm.findClass R_law = some m.cls := findClass_of_methodNamed B.named
    have hts0 : ∀ c ∈ (Jvm.Cond.code x code maxLocals ret :: tables_1), c.before #[Value.ref b] s = true := atoms_spec (ws := Jvm.Cond.code x code maxLocals ret :: tables_1) B.pre
    have hts : ∀ w ∈ lw_tbl, w.before #[Value.ref b] s = true := k2_hts_sels lw_privs (fun w hw => hts0 w (List.mem_cons_of_mem _ hw)) lw_privs_ok
    have hml : c.maxLocals = 8 := B.maxLocals_eq (hts0 _ List.mem_cons_self)
    have X₀ : Stand p l e room_1 s m #[Value.ref b] below meth c s₁ [] 0 0 := Stand.of_body B
    have hh0 : s₁.heap = s.heap := by rw [B.state]; rfl
    have hsz : scr.slots.size = xs.length := by rw [← Array.length_toList, hlist, List.length_map]
    have hval : ∀ j : Nat, j < xs.length → scr.slots[j]? = some (.int (xs.getD j 0)) := fun j hj => by
      rw [← Array.getElem?_toList, hlist]
      simp [hj]
    have hbl : b < s.heap.size := (Array.getElem?_eq_some_iff.mp hcb).1
    have hX : va_X b xs.length (fun j => xs.getD j 0) s s.heap := ⟨scr, hcb, hof, hkn, hsz, hval⟩
    have K : W p l e room_1 s m #[Value.ref b] below meth c s₁.heap [] 0 0 (lw_Z below #[Value.ref b] s) (entryFrame m ([Value.ref b] : List Value).toArray 8) := by
      rw [hh0]
      exact whole_start l hl hbd ⟨B.exec, B.bytes, B.returns, hml, hown, hts, hX, hbl, B.notSynchronized, hgv⟩
    obtain ⟨t, a1, o, b1, b2, b3⟩ := K s₁ rfl X₀
    exact ⟨t, o, a1, b1, b2, b3⟩
theorem lw_pre_spec {args : Array Value} {s : State} (h : (Jvm.Cond.and given_1 narrow_1).before args s = true) (hr : rest_1_c.before args s = true) : ∃ (b : Addr) (xs : List Int32), lw_P b xs args s := by
  have hs := flat_of_before _ h
  have hq := flat_of_before _ hr
  have hc : (Cond.count 1).before args s = true := hs _ (by decide +kernel)
  have harr : (Cond.arrayOf (.arg 0) .int).before args s = true := hs _ (by decide +kernel)
  have hle : (Cond.le (.length (.arg 0)) (.int 2048)).before args s = true := hs _ (by decide +kernel)
  have hlen : (Cond.isInt (.length (.arg 0))).before args s = true := hq _ (by decide +kernel)
  have hall : (Cond.all (.arg 0) (.isInt (.elem (.arg 0) (.index 0)))).before args s = true := hq _ (by decide +kernel)
  obtain ⟨b, xs, hb, hx⟩ := State.ints_of_pre rfl harr hlen hall
  have hsm : xs.length < 2 ^ 31 := hx.choose_spec.2.2.2
  have hev : (Term.length (.arg 0)).eval args s none [] s = some (.int xs.length.toInt32) := hx.length_eval hb
  have hv := Cond.le_ints hev (show (Term.int 2048).eval args s none [] s = some (.int 2048) from rfl)
  have hd : xs.length.toInt32 ≤ 2048 := by
    simpa [Cond.before, Cond.holds, hv] using hle
  have hN : xs.length ≤ 2048 := (Int32.ofNat_le_ofNat hsm (by decide)).mp (show Int32.ofNat xs.length ≤ Int32.ofNat 2048 from hd)
  exact ⟨b, xs, Cond.one_arg hc (show args[0]? = some (.ref b) from hb), hx, hN, h⟩
theorem lw_comes (l : Launch) (hl : l.stackTraces = false) : Comes l x (Jvm.Cond.code x code maxLocals ret :: tables_1) room_1 (fun tb e args s => Calls_1 tb e args s ∧ rest_1 tb e args s ∧ Pre_1 tb e args s)
    (fun _ _ args s o t => lw_Q args s o t) := by
  intro p e ha hc hk s m args below hf hfit hheap happ hpre
  obtain ⟨b, xs, hP⟩ := lw_pre_spec hpre.2.2 hpre.2.1
  obtain ⟨k, o, h1, h2, h3, hQ⟩ := lw_walk l hl b xs p e ha hc hk s m args below hf ((Spec.applies_iff_loose hf).mp happ).1 hP trivial
  exact ⟨k, o, h1, h2, h3, hQ⟩
theorem lw_frame {s t : State} {o : Outcome} {args : Array Value} (h : Framed s o t [] 601024 7293034) :
    Framed s o t (fieldLocs frame_1_writes args s ++ arrayLocs frame_1_arrays args s ++ staticLocs frame_1_statics s) 601024 7293034 := h
theorem lw_limb (L : Cond) (hL : ∀ (args : Array Value) (s t : State), L.after args s (.returned (some (.int 1))) t = true) :
    ArmFor flags0 classFile x code maxLocals ret World_1 tables_1 room_1 Calls_1 rest_1 Pre_1
      (fun tb e a s o t => postC L tb e a s o t ∧ Framed s o t (fieldLocs frame_1_writes a s ++ arrayLocs frame_1_arrays a s ++ staticLocs frame_1_statics s) 601024 7293034) := by
  intro l hfl _ _ p e ha hc hk s m args below hf hfit hheap happ hpre
  have hl : l.stackTraces = false := by unfold Launch.stackTraces; rw [hfl]; decide
  obtain ⟨k, o, h1, h2, h3, rfl, hF⟩ := lw_comes l hl p e ha hc hk s m args below hf hfit hheap happ hpre
  exact ⟨k, _, h1, h2, h3, hL args s _, lw_frame hF⟩
theorem i_vc : Claimed_1_1 ∧ Claimed_1_2 := ⟨lw_limb limb_1_1 (fun args s t => by simp [limb_1_1, Cond.after, Cond.holds, Cond.value]), lw_limb limb_1_2 (fun args s t => Cond.after_iff.mpr (by
  first | (rw [show limb_1_2 = Cond.eq .result (.int 1) from rfl, Cond.eq_ints (x := 1) (y := 1) rfl rfl]; simp; done) | (simp [limb_1_2, Cond.value, Term.eval]; done)))⟩
