abbrev Lz : Type := Int32 × Rq × (Int32 × Int32 × Int32 × Int32 × Int32) × Int32 × Int32
/-- a leave read: fault, state, what is told of it, the last span -/
def rL (f : Nat → Int32) (L : Nat) (o p a b c d e : Int32) : Lz :=
  if wat f (rd0 f L) 0 = true then
    (if msO f L (nI 7) (rd0 f L) = true then
      ((rA f L (msT f L (nI 7) (rd0 f L)) (nI 0) (nI 0) (nI 400) (msB f L (nI 7) (rd0 f L) p)).1, (rA f L (msT f L (nI 7) (rd0 f L)) (nI 0) (nI 0) (nI 400) (msB f L (nI 7) (rd0 f L) p)).2.1,
       (mvh f (goT f L (rd0 f L)), msB f L (nI 7) (rd0 f L) p, (rA f L (msT f L (nI 7) (rd0 f L)) (nI 0) (nI 0) (nI 400) (msB f L (nI 7) (rd0 f L) p)).2.2.2.1, (rA f L (msT f L (nI 7) (rd0 f L)) (nI 0) (nI 0) (nI 400) (msB f L (nI 7) (rd0 f L) p)).2.2.2.2, (rA f L (msT f L (nI 7) (rd0 f L)) (nI 0) (nI 0) (nI 400) (msB f L (nI 7) (rd0 f L) p)).2.2.1),
       rAa f L (msT f L (nI 7) (rd0 f L)) (mvh f (goT f L (rd0 f L))), rAb f L (msT f L (nI 7) (rd0 f L)) (msB f L (nI 7) (rd0 f L) p))
    else (mhr L (msT f L (nI 7) (rd0 f L)), msT f L (nI 7) (rd0 f L), (a, b, c, d, e), mvh f (goT f L (rd0 f L)), msB f L (nI 7) (rd0 f L) p))
  else (mhr L (rd0 f L), rd0 f L, (a, b, c, d, e), o, p)
