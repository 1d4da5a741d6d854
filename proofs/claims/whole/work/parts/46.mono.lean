theorem zV_mono {g : zG} {Post Post2 : zPost} {u : Nat × Nat} {S : zS} {I : zMI} {L : zML} {R : zMR} {pc : Nat} {lv : List (Option Value)} {st : List Value} (h : zV g Post u S I L R pc lv st) (hP : ∀ S2 I2 L2 R2 r, Post S2 I2 L2 R2 r → Post2 S2 I2 L2 R2 r) : zV g Post2 u S I L R pc lv st := by
  intro p l e Rm s m args below meth c D G as A H locs ls Q h1 h2 h3 h4 h5
  refine h p l e Rm s m args below meth c D G as A H locs ls Q h1 h2 h3 h4 ?_
  exact fun S2 I2 L2 R2 r as2 H2 locs2 pc2 ls2 q1 q2 q3 q4 q5 q6 => h5 S2 I2 L2 R2 r as2 H2 locs2 pc2 ls2 q1 (hP _ _ _ _ _ q2) q3 q4 q5 q6
