theorem dL_law_1986 : decode cL_law 1986 = .ok (.aload_n 2, 1) := by decide +kernel
theorem dL_law_1987 : decode cL_law 1987 = .ok (.aload_n 0, 1) := by decide +kernel
theorem dL_law_1988 : decode cL_law 1988 = .ok (.iload_n 3, 1) := by decide +kernel
theorem dL_law_1989 : decode cL_law 1989 = .ok (.iconst 1, 1) := by decide +kernel
theorem dL_law_1990 : decode cL_law 1990 = .ok (.iadd, 1) := by decide +kernel
theorem dL_law_1991 : decode cL_law 1991 = .ok (.iaload, 1) := by decide +kernel
theorem dL_law_1992 : decode cL_law 1992 = .ok (.aload_n 0, 1) := by decide +kernel
theorem dL_law_1993 : decode cL_law 1993 = .ok (.iload_n 3, 1) := by decide +kernel
theorem dL_law_1994 : decode cL_law 1994 = .ok (.iconst 2, 1) := by decide +kernel
theorem dL_law_1995 : decode cL_law 1995 = .ok (.iadd, 1) := by decide +kernel
theorem dL_law_1996 : decode cL_law 1996 = .ok (.iaload, 1) := by decide +kernel
theorem dL_law_1997 : decode cL_law 1997 = .ok (.aload_n 0, 1) := by decide +kernel
theorem dL_law_1998 : decode cL_law 1998 = .ok (.iload_n 3, 1) := by decide +kernel
theorem dL_law_1999 : decode cL_law 1999 = .ok (.iconst 3, 1) := by decide +kernel
theorem dL_law_2000 : decode cL_law 2000 = .ok (.iadd, 1) := by decide +kernel
theorem dL_law_2001 : decode cL_law 2001 = .ok (.iaload, 1) := by decide +kernel
theorem dL_law_2002 : decode cL_law 2002 = .ok (.aload_n 0, 1) := by decide +kernel
theorem dL_law_2003 : decode cL_law 2003 = .ok (.iload_n 3, 1) := by decide +kernel
theorem dL_law_2004 : decode cL_law 2004 = .ok (.iconst 4, 1) := by decide +kernel
theorem dL_law_2005 : decode cL_law 2005 = .ok (.iadd, 1) := by decide +kernel
theorem dL_law_2006 : decode cL_law 2006 = .ok (.iaload, 1) := by decide +kernel
theorem dL_law_2007 : decode cL_law 2007 = .ok (.aload_n 0, 1) := by decide +kernel
theorem dL_law_2008 : decode cL_law 2008 = .ok (.iload_n 3, 1) := by decide +kernel
theorem dL_law_2009 : decode cL_law 2009 = .ok (.iconst 5, 1) := by decide +kernel
theorem dL_law_2010 : decode cL_law 2010 = .ok (.iadd, 1) := by decide +kernel
theorem dL_law_2011 : decode cL_law 2011 = .ok (.iaload, 1) := by decide +kernel
theorem dL_law_2012 : decode cL_law 2012 = .ok (.invokevirtual 241, 3) := by decide +kernel
theorem dL_law_2015 : decode cL_law 2015 = .ok (.pop, 1) := by decide +kernel
theorem dL_law_2016 : decode cL_law 2016 = .ok (.goto 3, 3) := by decide +kernel
theorem dL_law_2019 : decode cL_law 2019 = .ok (.iinc 3 6, 3) := by decide +kernel
theorem dL_law_2022 : decode cL_law 2022 = .ok (.goto (-2004), 3) := by decide +kernel
theorem dL_law_2025 : decode cL_law 2025 = .ok (.iconst 1, 1) := by decide +kernel
theorem dL_law_2026 : decode cL_law 2026 = .ok (.ireturn, 1) := by decide +kernel
