/-! the reference's small methods -/
theorem xfit_i {c k : Nat} {x : Int32} (h : xft c k = .int) : xfitb c k (.int x) = true := by
  unfold xfitb
  rw [h]
  simp [narrow, fits]
theorem ev_s0r {d : Nat} {y : xMt} {pc : Nat} {lo : xL} {st : List Value} {σ σ1 : xS} {r : xO × xS} {k : Nat} {z : xMt} {v : Value} (hd : decode (xC y) pc = .ok (.invokestatic k, 3)) (hq : xca (xo y) k = some (0, z)) (hn : xnp z = 0) (hc : (([] : List Value).all fun v => v.category == 1) = true ∧ 0 ≤ xm z ∧ xwt st ≤ 8) (h1 : xCl d z [] σ (.inl (some v), σ1)) (h2 : xEv (d + 1) y (pc + 3) lo (v :: st) σ1 r) : xEv (d + 1) y pc lo (st) σ r := ev_s0 hd hq hn hc h1 h2
theorem ev_s0o {d : Nat} {y : xMt} {pc : Nat} {lo : xL} {st : List Value} {σ σ1 : xS} {r : xO × xS} {k : Nat} {z : xMt} (hd : decode (xC y) pc = .ok (.invokestatic k, 3)) (hq : xca (xo y) k = some (0, z)) (hn : xnp z = 0) (hc : (([] : List Value).all fun v => v.category == 1) = true ∧ 0 ≤ xm z ∧ xwt st ≤ 8) (h1 : xCl d z [] σ (.inl none, σ1)) (h2 : xEv (d + 1) y (pc + 3) lo st σ1 r) : xEv (d + 1) y pc lo (st) σ r := ev_s0 hd hq hn hc h1 h2
theorem ev_s0t {d : Nat} {y : xMt} {pc : Nat} {lo : xL} {st : List Value} {σ σ1 : xS} {k : Nat} {z : xMt} {E : String} (hd : decode (xC y) pc = .ok (.invokestatic k, 3)) (hq : xca (xo y) k = some (0, z)) (hn : xnp z = 0) (hc : (([] : List Value).all fun v => v.category == 1) = true ∧ 0 ≤ xm z ∧ xwt st ≤ 8) (h1 : xCl d z [] σ (.inr E, σ1)) : xEv (d + 1) y pc lo (st) σ (.inr E, σ1) := ev_s0 hd hq hn hc h1 rfl
theorem ev_v0r {d : Nat} {y : xMt} {pc : Nat} {lo : xL} {st : List Value} {σ σ1 : xS} {r : xO × xS} {k b : Nat} {z : xMt} {fs : List Value} {v : Value} (hd : decode (xC y) pc = .ok (.invokevirtual k, 3)) (hq : xca (xo y) k = some (1, z)) (hn : xnp z = 0) (hb : σ.1 b = some (.inr (xo z, fs))) (hc : (((.ref b : Value) :: []).all fun v => v.category == 1) = true ∧ 1 ≤ xm z ∧ xwt st ≤ 8) (h1 : xCl d z (.ref b :: []) σ (.inl (some v), σ1)) (h2 : xEv (d + 1) y (pc + 3) lo (v :: st) σ1 r) : xEv (d + 1) y pc lo (.ref b :: st) σ r := ev_v0 hd hq hn hb hc h1 h2
theorem ev_v0o {d : Nat} {y : xMt} {pc : Nat} {lo : xL} {st : List Value} {σ σ1 : xS} {r : xO × xS} {k b : Nat} {z : xMt} {fs : List Value} (hd : decode (xC y) pc = .ok (.invokevirtual k, 3)) (hq : xca (xo y) k = some (1, z)) (hn : xnp z = 0) (hb : σ.1 b = some (.inr (xo z, fs))) (hc : (((.ref b : Value) :: []).all fun v => v.category == 1) = true ∧ 1 ≤ xm z ∧ xwt st ≤ 8) (h1 : xCl d z (.ref b :: []) σ (.inl none, σ1)) (h2 : xEv (d + 1) y (pc + 3) lo st σ1 r) : xEv (d + 1) y pc lo (.ref b :: st) σ r := ev_v0 hd hq hn hb hc h1 h2
theorem ev_v0t {d : Nat} {y : xMt} {pc : Nat} {lo : xL} {st : List Value} {σ σ1 : xS} {k b : Nat} {z : xMt} {fs : List Value} {E : String} (hd : decode (xC y) pc = .ok (.invokevirtual k, 3)) (hq : xca (xo y) k = some (1, z)) (hn : xnp z = 0) (hb : σ.1 b = some (.inr (xo z, fs))) (hc : (((.ref b : Value) :: []).all fun v => v.category == 1) = true ∧ 1 ≤ xm z ∧ xwt st ≤ 8) (h1 : xCl d z (.ref b :: []) σ (.inr E, σ1)) : xEv (d + 1) y pc lo (.ref b :: st) σ (.inr E, σ1) := ev_v0 hd hq hn hb hc h1 rfl
theorem ev_s1r {d : Nat} {y : xMt} {pc : Nat} {lo : xL} {st : List Value} {σ σ1 : xS} {r : xO × xS} {k : Nat} {z : xMt} {v1 : Value} {v : Value} (hd : decode (xC y) pc = .ok (.invokestatic k, 3)) (hq : xca (xo y) k = some (0, z)) (hn : xnp z = 1) (hc : (([v1] : List Value).all fun v => v.category == 1) = true ∧ 1 ≤ xm z ∧ xwt st ≤ 8) (h1 : xCl d z [v1] σ (.inl (some v), σ1)) (h2 : xEv (d + 1) y (pc + 3) lo (v :: st) σ1 r) : xEv (d + 1) y pc lo (v1 :: st) σ r := ev_s1 hd hq hn hc h1 h2
theorem ev_s1o {d : Nat} {y : xMt} {pc : Nat} {lo : xL} {st : List Value} {σ σ1 : xS} {r : xO × xS} {k : Nat} {z : xMt} {v1 : Value} (hd : decode (xC y) pc = .ok (.invokestatic k, 3)) (hq : xca (xo y) k = some (0, z)) (hn : xnp z = 1) (hc : (([v1] : List Value).all fun v => v.category == 1) = true ∧ 1 ≤ xm z ∧ xwt st ≤ 8) (h1 : xCl d z [v1] σ (.inl none, σ1)) (h2 : xEv (d + 1) y (pc + 3) lo st σ1 r) : xEv (d + 1) y pc lo (v1 :: st) σ r := ev_s1 hd hq hn hc h1 h2
theorem ev_s1t {d : Nat} {y : xMt} {pc : Nat} {lo : xL} {st : List Value} {σ σ1 : xS} {k : Nat} {z : xMt} {v1 : Value} {E : String} (hd : decode (xC y) pc = .ok (.invokestatic k, 3)) (hq : xca (xo y) k = some (0, z)) (hn : xnp z = 1) (hc : (([v1] : List Value).all fun v => v.category == 1) = true ∧ 1 ≤ xm z ∧ xwt st ≤ 8) (h1 : xCl d z [v1] σ (.inr E, σ1)) : xEv (d + 1) y pc lo (v1 :: st) σ (.inr E, σ1) := ev_s1 hd hq hn hc h1 rfl
theorem ev_v1r {d : Nat} {y : xMt} {pc : Nat} {lo : xL} {st : List Value} {σ σ1 : xS} {r : xO × xS} {k b : Nat} {z : xMt} {fs : List Value} {v1 : Value} {v : Value} (hd : decode (xC y) pc = .ok (.invokevirtual k, 3)) (hq : xca (xo y) k = some (1, z)) (hn : xnp z = 1) (hb : σ.1 b = some (.inr (xo z, fs))) (hc : (((.ref b : Value) :: [v1]).all fun v => v.category == 1) = true ∧ 2 ≤ xm z ∧ xwt st ≤ 8) (h1 : xCl d z (.ref b :: [v1]) σ (.inl (some v), σ1)) (h2 : xEv (d + 1) y (pc + 3) lo (v :: st) σ1 r) : xEv (d + 1) y pc lo (v1 :: .ref b :: st) σ r := ev_v1 hd hq hn hb hc h1 h2
theorem ev_v1o {d : Nat} {y : xMt} {pc : Nat} {lo : xL} {st : List Value} {σ σ1 : xS} {r : xO × xS} {k b : Nat} {z : xMt} {fs : List Value} {v1 : Value} (hd : decode (xC y) pc = .ok (.invokevirtual k, 3)) (hq : xca (xo y) k = some (1, z)) (hn : xnp z = 1) (hb : σ.1 b = some (.inr (xo z, fs))) (hc : (((.ref b : Value) :: [v1]).all fun v => v.category == 1) = true ∧ 2 ≤ xm z ∧ xwt st ≤ 8) (h1 : xCl d z (.ref b :: [v1]) σ (.inl none, σ1)) (h2 : xEv (d + 1) y (pc + 3) lo st σ1 r) : xEv (d + 1) y pc lo (v1 :: .ref b :: st) σ r := ev_v1 hd hq hn hb hc h1 h2
theorem ev_v1t {d : Nat} {y : xMt} {pc : Nat} {lo : xL} {st : List Value} {σ σ1 : xS} {k b : Nat} {z : xMt} {fs : List Value} {v1 : Value} {E : String} (hd : decode (xC y) pc = .ok (.invokevirtual k, 3)) (hq : xca (xo y) k = some (1, z)) (hn : xnp z = 1) (hb : σ.1 b = some (.inr (xo z, fs))) (hc : (((.ref b : Value) :: [v1]).all fun v => v.category == 1) = true ∧ 2 ≤ xm z ∧ xwt st ≤ 8) (h1 : xCl d z (.ref b :: [v1]) σ (.inr E, σ1)) : xEv (d + 1) y pc lo (v1 :: .ref b :: st) σ (.inr E, σ1) := ev_v1 hd hq hn hb hc h1 rfl
theorem ev_s2r {d : Nat} {y : xMt} {pc : Nat} {lo : xL} {st : List Value} {σ σ1 : xS} {r : xO × xS} {k : Nat} {z : xMt} {v1 v2 : Value} {v : Value} (hd : decode (xC y) pc = .ok (.invokestatic k, 3)) (hq : xca (xo y) k = some (0, z)) (hn : xnp z = 2) (hc : (([v1, v2] : List Value).all fun v => v.category == 1) = true ∧ 2 ≤ xm z ∧ xwt st ≤ 8) (h1 : xCl d z [v1, v2] σ (.inl (some v), σ1)) (h2 : xEv (d + 1) y (pc + 3) lo (v :: st) σ1 r) : xEv (d + 1) y pc lo (v2 :: v1 :: st) σ r := ev_s2 hd hq hn hc h1 h2
theorem ev_s2o {d : Nat} {y : xMt} {pc : Nat} {lo : xL} {st : List Value} {σ σ1 : xS} {r : xO × xS} {k : Nat} {z : xMt} {v1 v2 : Value} (hd : decode (xC y) pc = .ok (.invokestatic k, 3)) (hq : xca (xo y) k = some (0, z)) (hn : xnp z = 2) (hc : (([v1, v2] : List Value).all fun v => v.category == 1) = true ∧ 2 ≤ xm z ∧ xwt st ≤ 8) (h1 : xCl d z [v1, v2] σ (.inl none, σ1)) (h2 : xEv (d + 1) y (pc + 3) lo st σ1 r) : xEv (d + 1) y pc lo (v2 :: v1 :: st) σ r := ev_s2 hd hq hn hc h1 h2
theorem ev_s2t {d : Nat} {y : xMt} {pc : Nat} {lo : xL} {st : List Value} {σ σ1 : xS} {k : Nat} {z : xMt} {v1 v2 : Value} {E : String} (hd : decode (xC y) pc = .ok (.invokestatic k, 3)) (hq : xca (xo y) k = some (0, z)) (hn : xnp z = 2) (hc : (([v1, v2] : List Value).all fun v => v.category == 1) = true ∧ 2 ≤ xm z ∧ xwt st ≤ 8) (h1 : xCl d z [v1, v2] σ (.inr E, σ1)) : xEv (d + 1) y pc lo (v2 :: v1 :: st) σ (.inr E, σ1) := ev_s2 hd hq hn hc h1 rfl
theorem ev_v2r {d : Nat} {y : xMt} {pc : Nat} {lo : xL} {st : List Value} {σ σ1 : xS} {r : xO × xS} {k b : Nat} {z : xMt} {fs : List Value} {v1 v2 : Value} {v : Value} (hd : decode (xC y) pc = .ok (.invokevirtual k, 3)) (hq : xca (xo y) k = some (1, z)) (hn : xnp z = 2) (hb : σ.1 b = some (.inr (xo z, fs))) (hc : (((.ref b : Value) :: [v1, v2]).all fun v => v.category == 1) = true ∧ 3 ≤ xm z ∧ xwt st ≤ 8) (h1 : xCl d z (.ref b :: [v1, v2]) σ (.inl (some v), σ1)) (h2 : xEv (d + 1) y (pc + 3) lo (v :: st) σ1 r) : xEv (d + 1) y pc lo (v2 :: v1 :: .ref b :: st) σ r := ev_v2 hd hq hn hb hc h1 h2
theorem ev_v2o {d : Nat} {y : xMt} {pc : Nat} {lo : xL} {st : List Value} {σ σ1 : xS} {r : xO × xS} {k b : Nat} {z : xMt} {fs : List Value} {v1 v2 : Value} (hd : decode (xC y) pc = .ok (.invokevirtual k, 3)) (hq : xca (xo y) k = some (1, z)) (hn : xnp z = 2) (hb : σ.1 b = some (.inr (xo z, fs))) (hc : (((.ref b : Value) :: [v1, v2]).all fun v => v.category == 1) = true ∧ 3 ≤ xm z ∧ xwt st ≤ 8) (h1 : xCl d z (.ref b :: [v1, v2]) σ (.inl none, σ1)) (h2 : xEv (d + 1) y (pc + 3) lo st σ1 r) : xEv (d + 1) y pc lo (v2 :: v1 :: .ref b :: st) σ r := ev_v2 hd hq hn hb hc h1 h2
theorem ev_v2t {d : Nat} {y : xMt} {pc : Nat} {lo : xL} {st : List Value} {σ σ1 : xS} {k b : Nat} {z : xMt} {fs : List Value} {v1 v2 : Value} {E : String} (hd : decode (xC y) pc = .ok (.invokevirtual k, 3)) (hq : xca (xo y) k = some (1, z)) (hn : xnp z = 2) (hb : σ.1 b = some (.inr (xo z, fs))) (hc : (((.ref b : Value) :: [v1, v2]).all fun v => v.category == 1) = true ∧ 3 ≤ xm z ∧ xwt st ≤ 8) (h1 : xCl d z (.ref b :: [v1, v2]) σ (.inr E, σ1)) : xEv (d + 1) y pc lo (v2 :: v1 :: .ref b :: st) σ (.inr E, σ1) := ev_v2 hd hq hn hb hc h1 rfl
theorem ev_s3r {d : Nat} {y : xMt} {pc : Nat} {lo : xL} {st : List Value} {σ σ1 : xS} {r : xO × xS} {k : Nat} {z : xMt} {v1 v2 v3 : Value} {v : Value} (hd : decode (xC y) pc = .ok (.invokestatic k, 3)) (hq : xca (xo y) k = some (0, z)) (hn : xnp z = 3) (hc : (([v1, v2, v3] : List Value).all fun v => v.category == 1) = true ∧ 3 ≤ xm z ∧ xwt st ≤ 8) (h1 : xCl d z [v1, v2, v3] σ (.inl (some v), σ1)) (h2 : xEv (d + 1) y (pc + 3) lo (v :: st) σ1 r) : xEv (d + 1) y pc lo (v3 :: v2 :: v1 :: st) σ r := ev_s3 hd hq hn hc h1 h2
theorem ev_s3o {d : Nat} {y : xMt} {pc : Nat} {lo : xL} {st : List Value} {σ σ1 : xS} {r : xO × xS} {k : Nat} {z : xMt} {v1 v2 v3 : Value} (hd : decode (xC y) pc = .ok (.invokestatic k, 3)) (hq : xca (xo y) k = some (0, z)) (hn : xnp z = 3) (hc : (([v1, v2, v3] : List Value).all fun v => v.category == 1) = true ∧ 3 ≤ xm z ∧ xwt st ≤ 8) (h1 : xCl d z [v1, v2, v3] σ (.inl none, σ1)) (h2 : xEv (d + 1) y (pc + 3) lo st σ1 r) : xEv (d + 1) y pc lo (v3 :: v2 :: v1 :: st) σ r := ev_s3 hd hq hn hc h1 h2
theorem ev_s3t {d : Nat} {y : xMt} {pc : Nat} {lo : xL} {st : List Value} {σ σ1 : xS} {k : Nat} {z : xMt} {v1 v2 v3 : Value} {E : String} (hd : decode (xC y) pc = .ok (.invokestatic k, 3)) (hq : xca (xo y) k = some (0, z)) (hn : xnp z = 3) (hc : (([v1, v2, v3] : List Value).all fun v => v.category == 1) = true ∧ 3 ≤ xm z ∧ xwt st ≤ 8) (h1 : xCl d z [v1, v2, v3] σ (.inr E, σ1)) : xEv (d + 1) y pc lo (v3 :: v2 :: v1 :: st) σ (.inr E, σ1) := ev_s3 hd hq hn hc h1 rfl
theorem ev_v3r {d : Nat} {y : xMt} {pc : Nat} {lo : xL} {st : List Value} {σ σ1 : xS} {r : xO × xS} {k b : Nat} {z : xMt} {fs : List Value} {v1 v2 v3 : Value} {v : Value} (hd : decode (xC y) pc = .ok (.invokevirtual k, 3)) (hq : xca (xo y) k = some (1, z)) (hn : xnp z = 3) (hb : σ.1 b = some (.inr (xo z, fs))) (hc : (((.ref b : Value) :: [v1, v2, v3]).all fun v => v.category == 1) = true ∧ 4 ≤ xm z ∧ xwt st ≤ 8) (h1 : xCl d z (.ref b :: [v1, v2, v3]) σ (.inl (some v), σ1)) (h2 : xEv (d + 1) y (pc + 3) lo (v :: st) σ1 r) : xEv (d + 1) y pc lo (v3 :: v2 :: v1 :: .ref b :: st) σ r := ev_v3 hd hq hn hb hc h1 h2
theorem ev_v3o {d : Nat} {y : xMt} {pc : Nat} {lo : xL} {st : List Value} {σ σ1 : xS} {r : xO × xS} {k b : Nat} {z : xMt} {fs : List Value} {v1 v2 v3 : Value} (hd : decode (xC y) pc = .ok (.invokevirtual k, 3)) (hq : xca (xo y) k = some (1, z)) (hn : xnp z = 3) (hb : σ.1 b = some (.inr (xo z, fs))) (hc : (((.ref b : Value) :: [v1, v2, v3]).all fun v => v.category == 1) = true ∧ 4 ≤ xm z ∧ xwt st ≤ 8) (h1 : xCl d z (.ref b :: [v1, v2, v3]) σ (.inl none, σ1)) (h2 : xEv (d + 1) y (pc + 3) lo st σ1 r) : xEv (d + 1) y pc lo (v3 :: v2 :: v1 :: .ref b :: st) σ r := ev_v3 hd hq hn hb hc h1 h2
theorem ev_v3t {d : Nat} {y : xMt} {pc : Nat} {lo : xL} {st : List Value} {σ σ1 : xS} {k b : Nat} {z : xMt} {fs : List Value} {v1 v2 v3 : Value} {E : String} (hd : decode (xC y) pc = .ok (.invokevirtual k, 3)) (hq : xca (xo y) k = some (1, z)) (hn : xnp z = 3) (hb : σ.1 b = some (.inr (xo z, fs))) (hc : (((.ref b : Value) :: [v1, v2, v3]).all fun v => v.category == 1) = true ∧ 4 ≤ xm z ∧ xwt st ≤ 8) (h1 : xCl d z (.ref b :: [v1, v2, v3]) σ (.inr E, σ1)) : xEv (d + 1) y pc lo (v3 :: v2 :: v1 :: .ref b :: st) σ (.inr E, σ1) := ev_v3 hd hq hn hb hc h1 rfl
theorem ev_s4r {d : Nat} {y : xMt} {pc : Nat} {lo : xL} {st : List Value} {σ σ1 : xS} {r : xO × xS} {k : Nat} {z : xMt} {v1 v2 v3 v4 : Value} {v : Value} (hd : decode (xC y) pc = .ok (.invokestatic k, 3)) (hq : xca (xo y) k = some (0, z)) (hn : xnp z = 4) (hc : (([v1, v2, v3, v4] : List Value).all fun v => v.category == 1) = true ∧ 4 ≤ xm z ∧ xwt st ≤ 8) (h1 : xCl d z [v1, v2, v3, v4] σ (.inl (some v), σ1)) (h2 : xEv (d + 1) y (pc + 3) lo (v :: st) σ1 r) : xEv (d + 1) y pc lo (v4 :: v3 :: v2 :: v1 :: st) σ r := ev_s4 hd hq hn hc h1 h2
theorem ev_s4o {d : Nat} {y : xMt} {pc : Nat} {lo : xL} {st : List Value} {σ σ1 : xS} {r : xO × xS} {k : Nat} {z : xMt} {v1 v2 v3 v4 : Value} (hd : decode (xC y) pc = .ok (.invokestatic k, 3)) (hq : xca (xo y) k = some (0, z)) (hn : xnp z = 4) (hc : (([v1, v2, v3, v4] : List Value).all fun v => v.category == 1) = true ∧ 4 ≤ xm z ∧ xwt st ≤ 8) (h1 : xCl d z [v1, v2, v3, v4] σ (.inl none, σ1)) (h2 : xEv (d + 1) y (pc + 3) lo st σ1 r) : xEv (d + 1) y pc lo (v4 :: v3 :: v2 :: v1 :: st) σ r := ev_s4 hd hq hn hc h1 h2
theorem ev_s4t {d : Nat} {y : xMt} {pc : Nat} {lo : xL} {st : List Value} {σ σ1 : xS} {k : Nat} {z : xMt} {v1 v2 v3 v4 : Value} {E : String} (hd : decode (xC y) pc = .ok (.invokestatic k, 3)) (hq : xca (xo y) k = some (0, z)) (hn : xnp z = 4) (hc : (([v1, v2, v3, v4] : List Value).all fun v => v.category == 1) = true ∧ 4 ≤ xm z ∧ xwt st ≤ 8) (h1 : xCl d z [v1, v2, v3, v4] σ (.inr E, σ1)) : xEv (d + 1) y pc lo (v4 :: v3 :: v2 :: v1 :: st) σ (.inr E, σ1) := ev_s4 hd hq hn hc h1 rfl
theorem ev_v4r {d : Nat} {y : xMt} {pc : Nat} {lo : xL} {st : List Value} {σ σ1 : xS} {r : xO × xS} {k b : Nat} {z : xMt} {fs : List Value} {v1 v2 v3 v4 : Value} {v : Value} (hd : decode (xC y) pc = .ok (.invokevirtual k, 3)) (hq : xca (xo y) k = some (1, z)) (hn : xnp z = 4) (hb : σ.1 b = some (.inr (xo z, fs))) (hc : (((.ref b : Value) :: [v1, v2, v3, v4]).all fun v => v.category == 1) = true ∧ 5 ≤ xm z ∧ xwt st ≤ 8) (h1 : xCl d z (.ref b :: [v1, v2, v3, v4]) σ (.inl (some v), σ1)) (h2 : xEv (d + 1) y (pc + 3) lo (v :: st) σ1 r) : xEv (d + 1) y pc lo (v4 :: v3 :: v2 :: v1 :: .ref b :: st) σ r := ev_v4 hd hq hn hb hc h1 h2
theorem ev_v4o {d : Nat} {y : xMt} {pc : Nat} {lo : xL} {st : List Value} {σ σ1 : xS} {r : xO × xS} {k b : Nat} {z : xMt} {fs : List Value} {v1 v2 v3 v4 : Value} (hd : decode (xC y) pc = .ok (.invokevirtual k, 3)) (hq : xca (xo y) k = some (1, z)) (hn : xnp z = 4) (hb : σ.1 b = some (.inr (xo z, fs))) (hc : (((.ref b : Value) :: [v1, v2, v3, v4]).all fun v => v.category == 1) = true ∧ 5 ≤ xm z ∧ xwt st ≤ 8) (h1 : xCl d z (.ref b :: [v1, v2, v3, v4]) σ (.inl none, σ1)) (h2 : xEv (d + 1) y (pc + 3) lo st σ1 r) : xEv (d + 1) y pc lo (v4 :: v3 :: v2 :: v1 :: .ref b :: st) σ r := ev_v4 hd hq hn hb hc h1 h2
theorem ev_v4t {d : Nat} {y : xMt} {pc : Nat} {lo : xL} {st : List Value} {σ σ1 : xS} {k b : Nat} {z : xMt} {fs : List Value} {v1 v2 v3 v4 : Value} {E : String} (hd : decode (xC y) pc = .ok (.invokevirtual k, 3)) (hq : xca (xo y) k = some (1, z)) (hn : xnp z = 4) (hb : σ.1 b = some (.inr (xo z, fs))) (hc : (((.ref b : Value) :: [v1, v2, v3, v4]).all fun v => v.category == 1) = true ∧ 5 ≤ xm z ∧ xwt st ≤ 8) (h1 : xCl d z (.ref b :: [v1, v2, v3, v4]) σ (.inr E, σ1)) : xEv (d + 1) y pc lo (v4 :: v3 :: v2 :: v1 :: .ref b :: st) σ (.inr E, σ1) := ev_v4 hd hq hn hb hc h1 rfl
theorem ev_s5r {d : Nat} {y : xMt} {pc : Nat} {lo : xL} {st : List Value} {σ σ1 : xS} {r : xO × xS} {k : Nat} {z : xMt} {v1 v2 v3 v4 v5 : Value} {v : Value} (hd : decode (xC y) pc = .ok (.invokestatic k, 3)) (hq : xca (xo y) k = some (0, z)) (hn : xnp z = 5) (hc : (([v1, v2, v3, v4, v5] : List Value).all fun v => v.category == 1) = true ∧ 5 ≤ xm z ∧ xwt st ≤ 8) (h1 : xCl d z [v1, v2, v3, v4, v5] σ (.inl (some v), σ1)) (h2 : xEv (d + 1) y (pc + 3) lo (v :: st) σ1 r) : xEv (d + 1) y pc lo (v5 :: v4 :: v3 :: v2 :: v1 :: st) σ r := ev_s5 hd hq hn hc h1 h2
theorem ev_s5o {d : Nat} {y : xMt} {pc : Nat} {lo : xL} {st : List Value} {σ σ1 : xS} {r : xO × xS} {k : Nat} {z : xMt} {v1 v2 v3 v4 v5 : Value} (hd : decode (xC y) pc = .ok (.invokestatic k, 3)) (hq : xca (xo y) k = some (0, z)) (hn : xnp z = 5) (hc : (([v1, v2, v3, v4, v5] : List Value).all fun v => v.category == 1) = true ∧ 5 ≤ xm z ∧ xwt st ≤ 8) (h1 : xCl d z [v1, v2, v3, v4, v5] σ (.inl none, σ1)) (h2 : xEv (d + 1) y (pc + 3) lo st σ1 r) : xEv (d + 1) y pc lo (v5 :: v4 :: v3 :: v2 :: v1 :: st) σ r := ev_s5 hd hq hn hc h1 h2
theorem ev_s5t {d : Nat} {y : xMt} {pc : Nat} {lo : xL} {st : List Value} {σ σ1 : xS} {k : Nat} {z : xMt} {v1 v2 v3 v4 v5 : Value} {E : String} (hd : decode (xC y) pc = .ok (.invokestatic k, 3)) (hq : xca (xo y) k = some (0, z)) (hn : xnp z = 5) (hc : (([v1, v2, v3, v4, v5] : List Value).all fun v => v.category == 1) = true ∧ 5 ≤ xm z ∧ xwt st ≤ 8) (h1 : xCl d z [v1, v2, v3, v4, v5] σ (.inr E, σ1)) : xEv (d + 1) y pc lo (v5 :: v4 :: v3 :: v2 :: v1 :: st) σ (.inr E, σ1) := ev_s5 hd hq hn hc h1 rfl
theorem ev_v5r {d : Nat} {y : xMt} {pc : Nat} {lo : xL} {st : List Value} {σ σ1 : xS} {r : xO × xS} {k b : Nat} {z : xMt} {fs : List Value} {v1 v2 v3 v4 v5 : Value} {v : Value} (hd : decode (xC y) pc = .ok (.invokevirtual k, 3)) (hq : xca (xo y) k = some (1, z)) (hn : xnp z = 5) (hb : σ.1 b = some (.inr (xo z, fs))) (hc : (((.ref b : Value) :: [v1, v2, v3, v4, v5]).all fun v => v.category == 1) = true ∧ 6 ≤ xm z ∧ xwt st ≤ 8) (h1 : xCl d z (.ref b :: [v1, v2, v3, v4, v5]) σ (.inl (some v), σ1)) (h2 : xEv (d + 1) y (pc + 3) lo (v :: st) σ1 r) : xEv (d + 1) y pc lo (v5 :: v4 :: v3 :: v2 :: v1 :: .ref b :: st) σ r := ev_v5 hd hq hn hb hc h1 h2
theorem ev_v5o {d : Nat} {y : xMt} {pc : Nat} {lo : xL} {st : List Value} {σ σ1 : xS} {r : xO × xS} {k b : Nat} {z : xMt} {fs : List Value} {v1 v2 v3 v4 v5 : Value} (hd : decode (xC y) pc = .ok (.invokevirtual k, 3)) (hq : xca (xo y) k = some (1, z)) (hn : xnp z = 5) (hb : σ.1 b = some (.inr (xo z, fs))) (hc : (((.ref b : Value) :: [v1, v2, v3, v4, v5]).all fun v => v.category == 1) = true ∧ 6 ≤ xm z ∧ xwt st ≤ 8) (h1 : xCl d z (.ref b :: [v1, v2, v3, v4, v5]) σ (.inl none, σ1)) (h2 : xEv (d + 1) y (pc + 3) lo st σ1 r) : xEv (d + 1) y pc lo (v5 :: v4 :: v3 :: v2 :: v1 :: .ref b :: st) σ r := ev_v5 hd hq hn hb hc h1 h2
theorem ev_v5t {d : Nat} {y : xMt} {pc : Nat} {lo : xL} {st : List Value} {σ σ1 : xS} {k b : Nat} {z : xMt} {fs : List Value} {v1 v2 v3 v4 v5 : Value} {E : String} (hd : decode (xC y) pc = .ok (.invokevirtual k, 3)) (hq : xca (xo y) k = some (1, z)) (hn : xnp z = 5) (hb : σ.1 b = some (.inr (xo z, fs))) (hc : (((.ref b : Value) :: [v1, v2, v3, v4, v5]).all fun v => v.category == 1) = true ∧ 6 ≤ xm z ∧ xwt st ≤ 8) (h1 : xCl d z (.ref b :: [v1, v2, v3, v4, v5]) σ (.inr E, σ1)) : xEv (d + 1) y pc lo (v5 :: v4 :: v3 :: v2 :: v1 :: .ref b :: st) σ (.inr E, σ1) := ev_v5 hd hq hn hb hc h1 rfl
set_option maxRecDepth 20000 in
theorem c_M_within {d : Nat} {σ : xS} (v lo hi : Int32) : xCl d k_M_within [.int v, .int lo, .int hi] σ (.inl (some (.int (xbi (lo ≤ v ∧ v ≤ hi)))), σ) := by
  show xEv _ k_M_within 0 [some (.int v), some (.int lo), some (.int hi)] [] _ _
  refine ev_iload_n d_M_within_0 rfl ?_
  refine ev_iload_n d_M_within_1 rfl ?_
  refine ev_icmp_lt (t := 14) d_M_within_2 (by decide) (fun c_2_1 => ?_) (fun c_2_1 => ?_)
  · refine ev_iconst (v := 0) d_M_within_14 rfl ?_
    exact xEv.to (ev_zret d_M_within_15 rfl (Or.inl rfl)) (by rw [xbi_f (by grind)])
  · refine ev_iload_n d_M_within_5 rfl ?_
    refine ev_iload_n d_M_within_6 rfl ?_
    refine ev_icmp_gt (t := 14) d_M_within_7 (by decide) (fun c_7_2 => ?_) (fun c_7_2 => ?_)
    · refine ev_iconst (v := 0) d_M_within_14 rfl ?_
      exact xEv.to (ev_zret d_M_within_15 rfl (Or.inl rfl)) (by rw [xbi_f (by grind)])
    · refine ev_iconst (v := 1) d_M_within_10 rfl ?_
      refine ev_goto (t := 15) d_M_within_11 (by decide) ?_
      exact xEv.to (ev_zret d_M_within_15 rfl (Or.inr rfl)) (by rw [xbi_t (by grind)])
set_option maxRecDepth 20000 in
theorem c_M_isThing {d : Nat} {σ : xS} (t : Int32) : xCl d k_M_isThing [.int t] σ (.inl (some (.int (xbi (0 ≤ t ∧ t < 16)))), σ) := by
  show xEv _ k_M_isThing 0 [some (.int t)] [] _ _
  refine ev_iload_n d_M_isThing_0 rfl ?_
  refine ev_if_lt (t := 14) d_M_isThing_1 (by decide) (fun c_1_1 => ?_) (fun c_1_1 => ?_)
  · refine ev_iconst (v := 0) d_M_isThing_14 rfl ?_
    exact xEv.to (ev_zret d_M_isThing_15 rfl (Or.inl rfl)) (by rw [xbi_f (by grind)])
  · refine ev_iload_n d_M_isThing_4 rfl ?_
    refine ev_bipush (v := 16) d_M_isThing_5 rfl ?_
    refine ev_icmp_ge (t := 14) d_M_isThing_7 (by decide) (fun c_7_2 => ?_) (fun c_7_2 => ?_)
    · refine ev_iconst (v := 0) d_M_isThing_14 rfl ?_
      exact xEv.to (ev_zret d_M_isThing_15 rfl (Or.inl rfl)) (by rw [xbi_f (by grind)])
    · refine ev_iconst (v := 1) d_M_isThing_10 rfl ?_
      refine ev_goto (t := 15) d_M_isThing_11 (by decide) ?_
      exact xEv.to (ev_zret d_M_isThing_15 rfl (Or.inr rfl)) (by rw [xbi_t (by grind)])
set_option maxRecDepth 20000 in
theorem c_M_areDays {d : Nat} {σ : xS} (f t : Int32) : xCl d k_M_areDays [.int f, .int t] σ (.inl (some (.int (xbi (0 ≤ f ∧ f ≤ t ∧ t ≤ 100000)))), σ) := by
  show xEv _ k_M_areDays 0 [some (.int f), some (.int t)] [] _ _
  refine ev_iload_n d_M_areDays_0 rfl ?_
  refine ev_if_lt (t := 19) d_M_areDays_1 (by decide) (fun c_1_1 => ?_) (fun c_1_1 => ?_)
  · refine ev_iconst (v := 0) d_M_areDays_19 rfl ?_
    exact xEv.to (ev_zret d_M_areDays_20 rfl (Or.inl rfl)) (by rw [xbi_f (by grind)])
  · refine ev_iload_n d_M_areDays_4 rfl ?_
    refine ev_iload_n d_M_areDays_5 rfl ?_
    refine ev_icmp_gt (t := 19) d_M_areDays_6 (by decide) (fun c_6_2 => ?_) (fun c_6_2 => ?_)
    · refine ev_iconst (v := 0) d_M_areDays_19 rfl ?_
      exact xEv.to (ev_zret d_M_areDays_20 rfl (Or.inl rfl)) (by rw [xbi_f (by grind)])
    · refine ev_iload_n d_M_areDays_9 rfl ?_
      refine ev_ldc d_M_areDays_10 l_8_108 ?_
      refine ev_icmp_gt (t := 19) d_M_areDays_12 (by decide) (fun c_12_3 => ?_) (fun c_12_3 => ?_)
      · refine ev_iconst (v := 0) d_M_areDays_19 rfl ?_
        exact xEv.to (ev_zret d_M_areDays_20 rfl (Or.inl rfl)) (by rw [xbi_f (by grind)])
      · refine ev_iconst (v := 1) d_M_areDays_15 rfl ?_
        refine ev_goto (t := 20) d_M_areDays_16 (by decide) ?_
        exact xEv.to (ev_zret d_M_areDays_20 rfl (Or.inr rfl)) (by rw [xbi_t (by grind)])
set_option maxRecDepth 20000 in
theorem c_M_isDigit {d : Nat} {σ : xS} (s : Int32) : xCl d k_M_isDigit [.int s] σ (.inl (some (.int (xbi (48 ≤ s ∧ s ≤ 57)))), σ) := by
  show xEv _ k_M_isDigit 0 [some (.int s)] [] _ _
  refine ev_iload_n d_M_isDigit_0 rfl ?_
  refine ev_bipush (v := 48) d_M_isDigit_1 rfl ?_
  refine ev_icmp_lt (t := 16) d_M_isDigit_3 (by decide) (fun c_3_1 => ?_) (fun c_3_1 => ?_)
  · refine ev_iconst (v := 0) d_M_isDigit_16 rfl ?_
    exact xEv.to (ev_zret d_M_isDigit_17 rfl (Or.inl rfl)) (by rw [xbi_f (by grind)])
  · refine ev_iload_n d_M_isDigit_6 rfl ?_
    refine ev_bipush (v := 57) d_M_isDigit_7 rfl ?_
    refine ev_icmp_gt (t := 16) d_M_isDigit_9 (by decide) (fun c_9_2 => ?_) (fun c_9_2 => ?_)
    · refine ev_iconst (v := 0) d_M_isDigit_16 rfl ?_
      exact xEv.to (ev_zret d_M_isDigit_17 rfl (Or.inl rfl)) (by rw [xbi_f (by grind)])
    · refine ev_iconst (v := 1) d_M_isDigit_12 rfl ?_
      refine ev_goto (t := 17) d_M_isDigit_13 (by decide) ?_
      exact xEv.to (ev_zret d_M_isDigit_17 rfl (Or.inr rfl)) (by rw [xbi_t (by grind)])
set_option maxRecDepth 20000 in
theorem c_M_isName {d : Nat} {σ : xS} (s : Int32) : xCl d k_M_isName [.int s] σ (.inl (some (.int (xbi ((97 ≤ s ∧ s ≤ 104) ∨ s = 121 ∨ s = 122)))), σ) := by
  show xEv _ k_M_isName 0 [some (.int s)] [] _ _
  refine ev_iload_n d_M_isName_0 rfl ?_
  refine ev_bipush (v := 97) d_M_isName_1 rfl ?_
  refine ev_icmp_lt (t := 12) d_M_isName_3 (by decide) (fun c_3_1 => ?_) (fun c_3_1 => ?_)
  · refine ev_iload_n d_M_isName_12 rfl ?_
    refine ev_bipush (v := 121) d_M_isName_13 rfl ?_
    refine ev_icmp_eq (t := 24) d_M_isName_15 (by decide) (fun c_15_2 => ?_) (fun c_15_2 => ?_)
    · refine ev_iconst (v := 1) d_M_isName_24 rfl ?_
      refine ev_goto (t := 29) d_M_isName_25 (by decide) ?_
      exact xEv.to (ev_zret d_M_isName_29 rfl (Or.inr rfl)) (by rw [xbi_t (by grind)])
    · refine ev_iload_n d_M_isName_18 rfl ?_
      refine ev_bipush (v := 122) d_M_isName_19 rfl ?_
      refine ev_icmp_ne (t := 28) d_M_isName_21 (by decide) (fun c_21_3 => ?_) (fun c_21_3 => ?_)
      · refine ev_iconst (v := 0) d_M_isName_28 rfl ?_
        exact xEv.to (ev_zret d_M_isName_29 rfl (Or.inl rfl)) (by rw [xbi_f (by grind)])
      · refine ev_iconst (v := 1) d_M_isName_24 rfl ?_
        refine ev_goto (t := 29) d_M_isName_25 (by decide) ?_
        exact xEv.to (ev_zret d_M_isName_29 rfl (Or.inr rfl)) (by rw [xbi_t (by grind)])
  · refine ev_iload_n d_M_isName_6 rfl ?_
    refine ev_bipush (v := 104) d_M_isName_7 rfl ?_
    refine ev_icmp_le (t := 24) d_M_isName_9 (by decide) (fun c_9_4 => ?_) (fun c_9_4 => ?_)
    · refine ev_iconst (v := 1) d_M_isName_24 rfl ?_
      refine ev_goto (t := 29) d_M_isName_25 (by decide) ?_
      exact xEv.to (ev_zret d_M_isName_29 rfl (Or.inr rfl)) (by rw [xbi_t (by grind)])
    · refine ev_iload_n d_M_isName_12 rfl ?_
      refine ev_bipush (v := 121) d_M_isName_13 rfl ?_
      refine ev_icmp_eq (t := 24) d_M_isName_15 (by decide) (fun c_15_5 => ?_) (fun c_15_5 => ?_)
      · refine ev_iconst (v := 1) d_M_isName_24 rfl ?_
        refine ev_goto (t := 29) d_M_isName_25 (by decide) ?_
        exact xEv.to (ev_zret d_M_isName_29 rfl (Or.inr rfl)) (by rw [xbi_t (by grind)])
      · refine ev_iload_n d_M_isName_18 rfl ?_
        refine ev_bipush (v := 122) d_M_isName_19 rfl ?_
        refine ev_icmp_ne (t := 28) d_M_isName_21 (by decide) (fun c_21_6 => ?_) (fun c_21_6 => ?_)
        · refine ev_iconst (v := 0) d_M_isName_28 rfl ?_
          exact xEv.to (ev_zret d_M_isName_29 rfl (Or.inl rfl)) (by rw [xbi_f (by grind)])
        · refine ev_iconst (v := 1) d_M_isName_24 rfl ?_
          refine ev_goto (t := 29) d_M_isName_25 (by decide) ?_
          exact xEv.to (ev_zret d_M_isName_29 rfl (Or.inr rfl)) (by rw [xbi_t (by grind)])
set_option maxRecDepth 20000 in
theorem c_M_thrown {d : Nat} {B : xMm} {ad : Nat → Nat} {ix : Nat → Option Nat} {iv : Nat → Int32} {av : Nat → Nat → Int32} {ns : Nat × Nat} (ok : mOk ad ix)  : xCl d k_M_thrown [.ref (ad 0)] (mM B ad ix iv av, ns) (.inl (some (.int (iv 0))), (mM B ad ix iv av, ns)) := by
  show xEv _ k_M_thrown 0 [some (.ref (ad 0))] [] _ _
  refine ev_aload_n d_M_thrown_0 rfl ?_
  refine ev_get d_M_thrown_1 f_8_101 (mM_obj ok) rfl ?_
  exact xEv.to (ev_iret d_M_thrown_4 rfl) (by simp [])
def mgo (a b c : Int32) : Int32 := if a = 0 then 1 else if b = 0 then 2 else if c = 0 then 3 else 0
set_option maxRecDepth 20000 in
theorem c_M_goes {d : Nat} {B : xMm} {ad : Nat → Nat} {ix : Nat → Option Nat} {iv : Nat → Int32} {av : Nat → Nat → Int32} {ns : Nat × Nat} (ok : mOk ad ix) (a b c : Int32) : xCl d k_M_goes [.ref (ad 0), .int a, .int b, .int c] (mM B ad ix iv av, ns) (.inl (some (.int (xbi (mgo a b c = 0)))), (mM B ad ix (upd iv 0 (mgo a b c)) av, ns)) := by
  show xEv _ k_M_goes 0 [some (.ref (ad 0)), some (.int a), some (.int b), some (.int c)] [] _ _
  refine ev_aload_n d_M_goes_0 rfl ?_
  refine ev_iload_n d_M_goes_1 rfl ?_
  refine ev_if_ne (t := 9) d_M_goes_2 (by decide) (fun c_2_1 => ?_) (fun c_2_1 => ?_)
  · refine ev_iload_n d_M_goes_9 rfl ?_
    refine ev_if_ne (t := 17) d_M_goes_10 (by decide) (fun c_10_2 => ?_) (fun c_10_2 => ?_)
    · refine ev_iload_n d_M_goes_17 rfl ?_
      refine ev_if_ne (t := 25) d_M_goes_18 (by decide) (fun c_18_3 => ?_) (fun c_18_3 => ?_)
      · refine ev_iconst (v := 0) d_M_goes_25 rfl ?_
        refine ev_put d_M_goes_26 f_8_101 (mM_obj ok) ⟨Nat.le_of_ble_eq_true rfl, xfit_i rfl, Or.inl rfl⟩ (mM_put ok rfl) ?_
        refine ev_aload_n d_M_goes_29 rfl ?_
        refine ev_get d_M_goes_30 f_8_101 (mM_obj ok) rfl ?_
        refine ev_if_ne (t := 40) d_M_goes_33 (by decide) (fun c_33_4 => ?_) (fun c_33_4 => ?_)
        · refine ev_iconst (v := 0) d_M_goes_40 rfl ?_
          exact xEv.to (ev_zret d_M_goes_41 rfl (Or.inl rfl)) (by grind [mgo, xbi, upd])
        · refine ev_iconst (v := 1) d_M_goes_36 rfl ?_
          refine ev_goto (t := 41) d_M_goes_37 (by decide) ?_
          exact xEv.to (ev_zret d_M_goes_41 rfl (Or.inr rfl)) (by grind [mgo, xbi, upd])
      · refine ev_iconst (v := 3) d_M_goes_21 rfl ?_
        refine ev_goto (t := 26) d_M_goes_22 (by decide) ?_
        refine ev_put d_M_goes_26 f_8_101 (mM_obj ok) ⟨Nat.le_of_ble_eq_true rfl, xfit_i rfl, Or.inl rfl⟩ (mM_put ok rfl) ?_
        refine ev_aload_n d_M_goes_29 rfl ?_
        refine ev_get d_M_goes_30 f_8_101 (mM_obj ok) rfl ?_
        refine ev_if_ne (t := 40) d_M_goes_33 (by decide) (fun c_33_5 => ?_) (fun c_33_5 => ?_)
        · refine ev_iconst (v := 0) d_M_goes_40 rfl ?_
          exact xEv.to (ev_zret d_M_goes_41 rfl (Or.inl rfl)) (by grind [mgo, xbi, upd])
        · refine ev_iconst (v := 1) d_M_goes_36 rfl ?_
          refine ev_goto (t := 41) d_M_goes_37 (by decide) ?_
          exact xEv.to (ev_zret d_M_goes_41 rfl (Or.inr rfl)) (by grind [mgo, xbi, upd])
    · refine ev_iconst (v := 2) d_M_goes_13 rfl ?_
      refine ev_goto (t := 26) d_M_goes_14 (by decide) ?_
      refine ev_put d_M_goes_26 f_8_101 (mM_obj ok) ⟨Nat.le_of_ble_eq_true rfl, xfit_i rfl, Or.inl rfl⟩ (mM_put ok rfl) ?_
      refine ev_aload_n d_M_goes_29 rfl ?_
      refine ev_get d_M_goes_30 f_8_101 (mM_obj ok) rfl ?_
      refine ev_if_ne (t := 40) d_M_goes_33 (by decide) (fun c_33_6 => ?_) (fun c_33_6 => ?_)
      · refine ev_iconst (v := 0) d_M_goes_40 rfl ?_
        exact xEv.to (ev_zret d_M_goes_41 rfl (Or.inl rfl)) (by grind [mgo, xbi, upd])
      · refine ev_iconst (v := 1) d_M_goes_36 rfl ?_
        refine ev_goto (t := 41) d_M_goes_37 (by decide) ?_
        exact xEv.to (ev_zret d_M_goes_41 rfl (Or.inr rfl)) (by grind [mgo, xbi, upd])
  · refine ev_iconst (v := 1) d_M_goes_5 rfl ?_
    refine ev_goto (t := 26) d_M_goes_6 (by decide) ?_
    refine ev_put d_M_goes_26 f_8_101 (mM_obj ok) ⟨Nat.le_of_ble_eq_true rfl, xfit_i rfl, Or.inl rfl⟩ (mM_put ok rfl) ?_
    refine ev_aload_n d_M_goes_29 rfl ?_
    refine ev_get d_M_goes_30 f_8_101 (mM_obj ok) rfl ?_
    refine ev_if_ne (t := 40) d_M_goes_33 (by decide) (fun c_33_7 => ?_) (fun c_33_7 => ?_)
    · refine ev_iconst (v := 0) d_M_goes_40 rfl ?_
      exact xEv.to (ev_zret d_M_goes_41 rfl (Or.inl rfl)) (by grind [mgo, xbi, upd])
    · refine ev_iconst (v := 1) d_M_goes_36 rfl ?_
      refine ev_goto (t := 41) d_M_goes_37 (by decide) ?_
      exact xEv.to (ev_zret d_M_goes_41 rfl (Or.inr rfl)) (by grind [mgo, xbi, upd])
set_option maxRecDepth 20000 in
theorem c_M_isLoan {d : Nat} {B : xMm} {ad : Nat → Nat} {ix : Nat → Option Nat} {iv : Nat → Int32} {av : Nat → Nat → Int32} {ns : Nat × Nat} (ok : mOk ad ix) (v : Int32) : xCl d k_M_isLoan [.ref (ad 0), .int v] (mM B ad ix iv av, ns) (.inl (some (.int (xbi (0 ≤ v ∧ v < iv 23)))), (mM B ad ix iv av, ns)) := by
  show xEv _ k_M_isLoan 0 [some (.ref (ad 0)), some (.int v)] [] _ _
  refine ev_iload_n d_M_isLoan_0 rfl ?_
  refine ev_if_lt (t := 16) d_M_isLoan_1 (by decide) (fun c_1_1 => ?_) (fun c_1_1 => ?_)
  · refine ev_iconst (v := 0) d_M_isLoan_16 rfl ?_
    exact xEv.to (ev_zret d_M_isLoan_17 rfl (Or.inl rfl)) (by rw [xbi_f (by grind)])
  · refine ev_iload_n d_M_isLoan_4 rfl ?_
    refine ev_aload_n d_M_isLoan_5 rfl ?_
    refine ev_get d_M_isLoan_6 f_8_105 (mM_obj ok) rfl ?_
    refine ev_icmp_ge (t := 16) d_M_isLoan_9 (by decide) (fun c_9_2 => ?_) (fun c_9_2 => ?_)
    · refine ev_iconst (v := 0) d_M_isLoan_16 rfl ?_
      exact xEv.to (ev_zret d_M_isLoan_17 rfl (Or.inl rfl)) (by rw [xbi_f (by grind)])
    · refine ev_iconst (v := 1) d_M_isLoan_12 rfl ?_
      refine ev_goto (t := 17) d_M_isLoan_13 (by decide) ?_
      exact xEv.to (ev_zret d_M_isLoan_17 rfl (Or.inr rfl)) (by rw [xbi_t (by grind)])
set_option maxRecDepth 20000 in
theorem c_M_isContract {d : Nat} {B : xMm} {ad : Nat → Nat} {ix : Nat → Option Nat} {iv : Nat → Int32} {av : Nat → Nat → Int32} {ns : Nat × Nat} (ok : mOk ad ix) (v : Int32) : xCl d k_M_isContract [.ref (ad 0), .int v] (mM B ad ix iv av, ns) (.inl (some (.int (xbi (0 ≤ v ∧ v < iv 3)))), (mM B ad ix iv av, ns)) := by
  show xEv _ k_M_isContract 0 [some (.ref (ad 0)), some (.int v)] [] _ _
  refine ev_iload_n d_M_isContract_0 rfl ?_
  refine ev_if_lt (t := 16) d_M_isContract_1 (by decide) (fun c_1_1 => ?_) (fun c_1_1 => ?_)
  · refine ev_iconst (v := 0) d_M_isContract_16 rfl ?_
    exact xEv.to (ev_zret d_M_isContract_17 rfl (Or.inl rfl)) (by rw [xbi_f (by grind)])
  · refine ev_iload_n d_M_isContract_4 rfl ?_
    refine ev_aload_n d_M_isContract_5 rfl ?_
    refine ev_get d_M_isContract_6 f_8_135 (mM_obj ok) rfl ?_
    refine ev_icmp_ge (t := 16) d_M_isContract_9 (by decide) (fun c_9_2 => ?_) (fun c_9_2 => ?_)
    · refine ev_iconst (v := 0) d_M_isContract_16 rfl ?_
      exact xEv.to (ev_zret d_M_isContract_17 rfl (Or.inl rfl)) (by rw [xbi_f (by grind)])
    · refine ev_iconst (v := 1) d_M_isContract_12 rfl ?_
      refine ev_goto (t := 17) d_M_isContract_13 (by decide) ?_
      exact xEv.to (ev_zret d_M_isContract_17 rfl (Or.inr rfl)) (by rw [xbi_t (by grind)])
