/-! minors, and what the steps of the turning over leave -/
def m2 (a : Int → Int → Int) (r s i j : Int) : Int := a r i * a s j - a r j * a s i
def m3 (a : Int → Int → Int) (r s t i j k : Int) : Int := a r i * m2 a s t j k - a r j * m2 a s t i k + a r k * m2 a s t i j
def m4 (a : Int → Int → Int) (r s t u i j k l : Int) : Int := a r i * m3 a s t u j k l - a r j * m3 a s t u i k l + a r k * m3 a s t u i j l - a r l * m3 a s t u i j k
section MI
variable (a : Int → Int → Int) (s t u v r j : Int)
theorem mi1a : m2 a s t s t * m2 a s r s j - m2 a s r s t * m2 a s t s j = a s s * m3 a s t r s t j := by
  unfold m3 m2; grind
theorem mi1b : m2 a s t s t * a s j - a s t * m2 a s t s j = a s s * m2 a s t j t := by
  unfold m2; grind
theorem mi2a : m3 a s t u s t u * m3 a s t r s t j - m3 a s t r s t u * m3 a s t u s t j = m2 a s t s t * m4 a s t u r s t u j := by
  unfold m4 m3 m2; grind
theorem mi2b : m3 a s t u s t u * m2 a s t j t - m2 a s t u t * m3 a s t u s t j = m2 a s t s t * m3 a s t u j t u := by
  unfold m3 m2; grind
theorem mi2c : m3 a s t u s t u * m2 a s t s j - m2 a s t s u * m3 a s t u s t j = m2 a s t s t * m3 a s t u s j u := by
  unfold m3 m2; grind
theorem mi3a : m4 a s t u v s t u v * m3 a s t u j t u - m3 a s t u v t u * m4 a s t u v s t u j = m3 a s t u s t u * m4 a s t u v j t u v := by
  unfold m4 m3 m2; grind
theorem mi3b : m4 a s t u v s t u v * m3 a s t u s j u - m3 a s t u s v u * m4 a s t u v s t u j = m3 a s t u s t u * m4 a s t u v s j u v := by
  unfold m4 m3 m2; grind
theorem mi3c : m4 a s t u v s t u v * m3 a s t u s t j - m3 a s t u s t v * m4 a s t u v s t u j = m3 a s t u s t u * m4 a s t u v s t j v := by
  unfold m4 m3 m2; grind
end MI
